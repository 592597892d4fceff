import java.util.HashMap;
import java.util.Map;
import java.util.function.Supplier;
import java.util.function.ToIntFunction;

/**
 * ==== 5, of each call: what it refuses, which refusal is told first, and that a refused call
 * changes nothing: all that can be seen of an object is as if the call had not been made.
 */
public final class RefusalsTest {
    private static final int NONE = -1, BAD = -2, STATE = -3, FULL = -4;
    private static final int NO_CELL = -2147483648;
    private static final int LEAST = Integer.MIN_VALUE, MOST = Integer.MAX_VALUE;
    private static final Due due = new Due("RefusalsTest");

    /** A state from which calls are refused, and what can be seen of it. */
    private static final class Begun {
        final String name;
        final int texts, boxes;
        final Supplier<WayBoxes> made;
        final String seen;

        Begun(String name, int texts, int boxes, Supplier<WayBoxes> made) {
            this.name = name;
            this.texts = texts;
            this.boxes = boxes;
            this.made = made;
            seen = Seen.all(made);
        }
    }

    private static final Begun EMPTY = new Begun("empty", 0, 0, Made::empty);
    private static final Begun SOME = new Begun("some", 3, 4, Made::some);
    private static final Begun BRIM = new Begun("brim", 8, 8, Made::brim);
    private static final Begun[] ALL = {EMPTY, SOME, BRIM};
    private static final Begun[] FILLED = {SOME, BRIM};

    /** How many calls were refused, by the call's name. */
    private static final Map<String, Integer> refused = new HashMap<>();

    public static void main(String[] args) {
        feed();
        text();
        lines();
        part();
        box();
        work();
        cell();
        latest();
        row();
        send();
        sendFull();
        lead();
        leadState();
        led();
        hold();
        release();
        whole();
        copy();
        fall();
        letter();
        shown();
        ways();
        orders();
        ordersOfNoSuch();
        trace();
        as();
        undo();
        count();
        allCallsThatRefuse();
        due.end();
    }

    /** A call is refused, so, and leaves all as it was. */
    private static void refuses(Begun begun, int want, String call, ToIntFunction<WayBoxes> told) {
        refused.merge(call.split(",")[0], 1, Integer::sum);
        String name = begun.name + ": " + call;
        due.is(name, want, told.applyAsInt(begun.made.get()));
        String seen = Seen.all(() -> {
            WayBoxes x = begun.made.get();
            told.applyAsInt(x);
            return x;
        });
        due.isTrue(name + " changes nothing", seen.equals(begun.seen));
    }

    private static void refuses(Begun[] all, int want, String call, ToIntFunction<WayBoxes> told) {
        for (Begun begun : all) refuses(begun, want, call, told);
    }

    /** The numbers next to those that there are, and the outermost ones. */
    private static int[] outside(int least, int most) {
        return new int[] {least - 1, LEAST, most + 1, MOST};
    }

    private static void feed() {
        for (int n : outside(1, 8)) refuses(ALL, BAD, "feed, n " + n, x -> x.feed(0x2A3A70, n));
        for (int n = 1; n <= 8; n++) {
            int many = n;
            refuses(BRIM, FULL, "feed, " + n + " behind 160", x -> x.feed(0x2A3A70, many));
        }
        refuses(BRIM, BAD, "feed, BAD ahead of FULL", x -> x.feed(0, 9));
        Begun oneLess = new Begun("159 bytes", 0, 0, () -> {
            WayBoxes x = new WayBoxes();
            for (int i = 0; i < 53; i++) x.feed(0x703B2AL + i, 3);
            return x;
        });
        for (int n = 2; n <= 8; n++) {
            int many = n;
            refuses(oneLess, FULL, "feed, " + n + " behind 159", x -> x.feed(0, many));
        }
        due.is("one behind 159", 160, oneLess.made.get().feed(0, 1));
    }

    private static void text() {
        refuses(BRIM, FULL, "text, of 160 bytes", WayBoxes::text);
        Begun eight = new Begun("eight", 8, 0, () -> {
            WayBoxes x = new WayBoxes();
            for (int i = 0; i < 8; i++) Due.text(x, "*:d");
            return x;
        });
        refuses(eight, FULL, "text, of no bytes", WayBoxes::text);
        Begun eightAndOne = new Begun("eight and one", 8, 0, () -> {
            WayBoxes x = eight.made.get();
            Due.feed(x, "0:p");
            return x;
        });
        refuses(eightAndOne, FULL, "text, of a ninth one", WayBoxes::text);
    }

    private static void lines() {
        for (Begun begun : ALL) {
            for (int text : outside(0, begun.texts - 1)) {
                refuses(begun, NONE, "lines, text " + text, x -> x.lines(text, -1));
                refuses(begun, NONE, "lines, text " + text, x -> x.lines(text, 0));
            }
        }
        for (int line : outside(-1, 2)) refuses(SOME, NONE, "lines, line " + line, x -> x.lines(0, line));
        for (int line : outside(-1, 1)) refuses(BRIM, NONE, "lines, line " + line, x -> x.lines(7, line));
    }

    private static void part() {
        for (Begun begun : ALL) {
            for (int text : outside(0, begun.texts - 1)) {
                refuses(begun, NONE, "part, text " + text, x -> x.part(text, 0, 0, 0));
            }
        }
        for (int letter : outside(0, 1)) refuses(FILLED, NONE, "part, letter " + letter, x -> x.part(0, letter, 0, 0));
        for (int digit : outside(0, 3)) {
            refuses(FILLED, NONE, "part, s" + digit, x -> x.part(0, 0, digit, 0));
            refuses(FILLED, NONE, "part, g" + digit, x -> x.part(0, 1, digit, 1));
        }
        for (int what : outside(0, 1)) refuses(FILLED, NONE, "part, what " + what, x -> x.part(0, 0, 0, what));
    }

    private static void box() {
        for (Begun begun : ALL) {
            for (int text : outside(0, begun.texts - 1)) {
                refuses(begun, NONE, "box, text " + text, x -> x.box(0, text));
            }
        }
        // NONE is told ahead of FULL, which the second of these states is.
        for (int kind : outside(0, 6)) refuses(FILLED, NONE, "box, kind " + kind, x -> x.box(kind, 0));
        refuses(ALL, NONE, "box, neither", x -> x.box(7, 8));
        for (int kind = 0; kind <= 6; kind++) {
            int its = kind;
            refuses(BRIM, FULL, "box, a ninth one", x -> x.box(its, its));
        }
    }

    private static void work() {
        for (Begun begun : ALL) {
            for (int box : outside(0, begun.boxes - 1)) {
                refuses(begun, NONE, "work, box " + box, x -> x.work(box, 0, 0, 0, 0));
                refuses(begun, NONE, "work, box " + box + ", BAD, too", x -> x.work(box, 0, 0, 0, 100));
            }
        }
        for (int talk : outside(0, 15)) refuses(FILLED, NONE, "work, talk " + talk, x -> x.work(0, talk, 0, 0, 0));
        for (int house : outside(0, 3)) refuses(FILLED, NONE, "work, house " + house, x -> x.work(0, 0, house, 0, 0));
        for (int kind : outside(0, 3)) refuses(FILLED, NONE, "work, kind " + kind, x -> x.work(0, 0, 0, kind, 0));
        for (int n : outside(0, 99)) {
            refuses(FILLED, BAD, "work, n " + n, x -> x.work(0, 0, 0, 0, n));
            refuses(FILLED, NONE, "work, talk 16 ahead of n " + n, x -> x.work(0, 16, 0, 0, n));
            refuses(FILLED, NONE, "work, house 4 ahead of n " + n, x -> x.work(0, 0, 4, 0, n));
            refuses(FILLED, NONE, "work, kind 4 ahead of n " + n, x -> x.work(0, 0, 0, 4, n));
        }
    }

    private static void cell() {
        for (Begun begun : ALL) {
            for (int box : outside(0, begun.boxes - 1)) {
                refuses(begun, NO_CELL, "cell, box " + box, x -> x.cell(box, 2, 0, 0));
            }
        }
        for (int letter : outside(0, 2)) refuses(FILLED, NO_CELL, "cell, letter " + letter, x -> x.cell(0, letter, 0, 0));
        for (int digit : outside(0, 3)) {
            for (int letter = 0; letter <= 2; letter++) {
                int its = letter;
                refuses(FILLED, NO_CELL, "cell, " + letter + ", " + digit, x -> x.cell(0, its, digit, 0));
            }
        }
        for (int talk : outside(0, 15)) refuses(FILLED, NO_CELL, "cell, t of " + talk, x -> x.cell(0, 0, 0, talk));
        for (int house : outside(0, 3)) refuses(FILLED, NO_CELL, "cell, s of " + house, x -> x.cell(0, 1, 0, house));
    }

    private static void latest() {
        for (Begun begun : ALL) {
            for (int box : outside(0, begun.boxes - 1)) refuses(begun, NONE, "latest, " + box, x -> x.latest(box));
        }
    }

    private static void row() {
        for (Begun begun : ALL) {
            // NONE is told ahead of FULL, which the last one is.
            for (int box : outside(-1, begun.boxes - 1)) refuses(begun, NONE, "row, " + box, x -> x.row(box));
        }
        refuses(SOME, STATE, "row, one that is led to", x -> x.row(2));
        refuses(BRIM, STATE, "row, STATE ahead of FULL", x -> x.row(7));
        for (int box = 0; box < 7; box++) {
            int its = box;
            refuses(BRIM, FULL, "row, a seventh, " + box, x -> x.row(its));
        }
    }

    private static void send() {
        for (Begun begun : ALL) {
            for (int talk : outside(0, 15)) refuses(begun, NONE, "send, talk " + talk, x -> x.send(talk, 0, 0, 0));
            for (int house : outside(0, 3)) refuses(begun, NONE, "send, house " + house, x -> x.send(0, house, 0, 0));
            for (int kind : outside(0, 3)) refuses(begun, NONE, "send, kind " + kind, x -> x.send(0, 0, kind, 0));
            // TALK 0 is HELD in the filled ones, TALK 2 in the last one alone.
            for (int n : outside(0, 99)) {
                refuses(begun, BAD, "send, HELD, n " + n, x -> x.send(0, 0, 0, n));
                refuses(begun, BAD, "send, n " + n, x -> x.send(2, 0, 0, n));
                refuses(begun, NONE, "send, NONE ahead of n " + n, x -> x.send(16, 0, 0, n));
                refuses(begun, NONE, "send, NONE ahead of n " + n, x -> x.send(0, 4, 0, n));
                refuses(begun, NONE, "send, NONE ahead of n " + n, x -> x.send(0, 0, 4, n));
            }
        }
        refuses(EMPTY, STATE, "send, no ROW", x -> x.send(0, 0, 0, 0));
    }

    private static void sendFull() {
        for (int talk = 0; talk < 16; talk++) {
            int its = talk;
            refuses(BRIM, FULL, "send, 20 wait", x -> x.send(its, 0, 0, 0));
        }
        Begun noRow = new Begun("20 wait, no ROW", 8, 8, () -> {
            WayBoxes x = Made.brim();
            x.row(-1);
            return x;
        });
        refuses(noRow, STATE, "send, STATE ahead of FULL", x -> x.send(0, 0, 0, 0));
        refuses(noRow, BAD, "send, BAD ahead of both", x -> x.send(0, 0, 0, 100));
        refuses(noRow, NONE, "send, NONE ahead of all", x -> x.send(0, 0, 4, 100));
    }

    private static void lead() {
        for (Begun begun : ALL) {
            for (int box : outside(0, begun.boxes - 1)) {
                refuses(begun, NONE, "lead, box " + box, x -> x.lead(box, 0, 1));
                refuses(begun, NONE, "lead, to " + box, x -> x.lead(0, box, 1));
                refuses(begun, NONE, "lead, both " + box, x -> x.lead(box, box, 1));
                refuses(begun, NONE, "lead, NONE ahead of BAD", x -> x.lead(box, 0, -1));
                refuses(begun, NONE, "lead, NONE ahead of BAD", x -> x.lead(0, box, 65536));
            }
        }
        for (int talks : outside(0, 65535)) {
            refuses(FILLED, BAD, "lead, talks " + talks, x -> x.lead(0, 0, talks));
            refuses(FILLED, BAD, "lead, BAD ahead of STATE", x -> x.lead(0, 1, talks));
        }
    }

    private static void leadState() {
        for (int talks : new int[] {0, 1, 2, 6, 65535}) {
            refuses(SOME, STATE, "lead, to another one in THE ROW", x -> x.lead(0, 1, talks));
            refuses(SOME, STATE, "lead, to another one in THE ROW", x -> x.lead(3, 0, talks));
            refuses(SOME, STATE, "lead, one that is led to", x -> x.lead(2, 3, talks));
            refuses(SOME, STATE, "lead, one that is led to, to itself", x -> x.lead(2, 2, talks));
        }
        Begun noRow = new Begun("some, no ROW", 3, 4, () -> {
            WayBoxes x = Made.some();
            x.row(-1);
            return x;
        });
        for (int talks : new int[] {0, 1, 32768, 65535}) {
            refuses(noRow, STATE, "lead, to one that leads", x -> x.lead(3, 0, talks));
            refuses(noRow, STATE, "lead, to one that leads", x -> x.lead(3, 1, talks));
            refuses(noRow, STATE, "lead, to one that leads, from one that leads", x -> x.lead(0, 1, talks));
            refuses(noRow, STATE, "lead, one that is led to", x -> x.lead(2, 3, talks));
            refuses(noRow, STATE, "lead, one that is led to, to one that leads", x -> x.lead(2, 0, talks));
        }
    }

    private static void led() {
        for (Begun begun : ALL) {
            for (int box : outside(0, begun.boxes - 1)) refuses(begun, NONE, "led, box " + box, x -> x.led(box, 0));
        }
        for (int talk : outside(0, 15)) refuses(FILLED, NONE, "led, talk " + talk, x -> x.led(0, talk));
    }

    private static void hold() {
        for (int talks : outside(0, 65535)) refuses(ALL, BAD, "hold, " + talks, x -> x.hold(talks));
        refuses(ALL, BAD, "hold, more and less", x -> x.hold(65536 | 1));
    }

    private static void release() {
        for (Begun begun : FILLED) {
            Begun noRow = new Begun(begun.name + ", no ROW", begun.texts, begun.boxes, () -> {
                WayBoxes x = begun.made.get();
                x.row(-1);
                return x;
            });
            refuses(noRow, STATE, "release, some wait", WayBoxes::release);
        }
    }

    private static void whole() {
        for (Begun begun : ALL) {
            for (int box : outside(0, begun.boxes - 1)) {
                refuses(begun, NONE, "whole, " + box + " first", x -> x.whole(box, 0, 1));
                refuses(begun, NONE, "whole, " + box + " second", x -> x.whole(0, box, 1));
                refuses(begun, NONE, "whole, " + box + " third", x -> x.whole(0, 1, box));
                refuses(begun, NONE, "whole, NONE ahead of BAD", x -> x.whole(0, 0, box));
                refuses(begun, NONE, "whole, NONE ahead of BAD", x -> x.whole(box, 0, 0));
                refuses(begun, NONE, "whole, NONE ahead of BAD", x -> x.whole(0, box, 0));
                refuses(begun, NONE, "whole, NONE ahead of BAD", x -> x.whole(box, box, box));
            }
        }
        refuses(FILLED, BAD, "whole, 0 0 1", x -> x.whole(0, 0, 1));
        refuses(FILLED, BAD, "whole, 0 1 0", x -> x.whole(0, 1, 0));
        refuses(FILLED, BAD, "whole, 1 0 0", x -> x.whole(1, 0, 0));
        refuses(FILLED, BAD, "whole, 3 3 3", x -> x.whole(3, 3, 3));
    }

    private static void copy() {
        for (Begun begun : ALL) {
            for (int box : outside(0, begun.boxes - 1)) refuses(begun, NONE, "copy, " + box, x -> x.copy(box));
        }
    }

    private static void fall() {
        for (Begun begun : ALL) {
            for (int box : outside(0, begun.boxes - 1)) refuses(begun, NONE, "fall, " + box, x -> x.fall(box));
        }
    }

    private static void letter() {
        // NONE and BAD are told ahead of FULL, which the last one is.
        for (int talk : outside(0, 15)) refuses(ALL, NONE, "letter, talk " + talk, x -> x.letter(talk, 0, 0, 0));
        for (int house : outside(0, 3)) refuses(ALL, NONE, "letter, house " + house, x -> x.letter(0, house, 0, 0));
        for (int kind : outside(0, 3)) refuses(ALL, NONE, "letter, kind " + kind, x -> x.letter(0, 0, kind, 0));
        for (int n : outside(0, 99)) {
            refuses(ALL, BAD, "letter, n " + n, x -> x.letter(0, 0, 0, n));
            refuses(ALL, NONE, "letter, NONE ahead of n " + n, x -> x.letter(16, 0, 0, n));
            refuses(ALL, NONE, "letter, NONE ahead of n " + n, x -> x.letter(0, 4, 0, n));
            refuses(ALL, NONE, "letter, NONE ahead of n " + n, x -> x.letter(0, 0, 4, n));
        }
        refuses(BRIM, FULL, "letter, a sixth", x -> x.letter(0, 0, 1, 0));
        refuses(BRIM, FULL, "letter, a sixth", x -> x.letter(15, 3, 3, 99));
    }

    private static void shown() {
        for (Begun begun : ALL) {
            for (int text : outside(0, begun.texts - 1)) {
                refuses(begun, NONE, "shown, text " + text, x -> x.shown(text, 0, 0, 1, -1));
                refuses(begun, NONE, "shown, text ahead of BAD", x -> x.shown(text, 0, 100, 4, -1));
            }
        }
        for (int form : outside(0, 4)) {
            refuses(FILLED, NONE, "shown, form " + form, x -> x.shown(0, form, 0, 1, -1));
            refuses(FILLED, NONE, "shown, form ahead of BAD", x -> x.shown(0, form, 100, 1, -1));
        }
        for (int i : new int[] {-3, LEAST}) {
            refuses(FILLED, NONE, "shown, i " + i, x -> x.shown(0, 0, 0, 1, i));
            refuses(FILLED, NONE, "shown, i ahead of BAD", x -> x.shown(0, 0, 0, 4, i));
        }
        for (int form = 0; form < 5; form++) {
            int its = form;
            for (int n : outside(0, 99)) refuses(FILLED, BAD, "shown, n " + n, x -> x.shown(0, its, n, 1, -1));
        }
        for (int d : outside(1, 3)) {
            refuses(FILLED, BAD, "shown, d " + d, x -> x.shown(0, 0, 0, d, -2));
            refuses(FILLED, BAD, "shown, BAD ahead of no i-th", x -> x.shown(0, 0, 0, d, 3));
        }
        // TEXT 1 passes the first letter of each, a KIND 1 of a TALK or one packet of it.
        for (int i : new int[] {1, 2, 3, MOST}) refuses(SOME, NONE, "shown, no i-th", x -> x.shown(1, 0, 0, 3, i));
        for (int i : new int[] {1, 2, 3, MOST}) refuses(BRIM, NONE, "shown, no i-th", x -> x.shown(1, 2, 0, 3, i));
        for (int i : new int[] {0, 1, MOST}) refuses(FILLED, NONE, "shown, no BREACH", x -> x.shown(1, 2, 3, 3, i));
    }

    private static void ways() {
        for (Begun begun : ALL) {
            for (int text : outside(0, begun.texts - 1)) {
                refuses(begun, NONE, "ways, a " + text, x -> x.ways(text, 0, 1, -1));
                refuses(begun, NONE, "ways, b " + text, x -> x.ways(0, text, 1, -1));
                refuses(begun, NONE, "ways, NONE ahead of BAD", x -> x.ways(0, text, 4, -1));
            }
        }
        for (int i : new int[] {-2, LEAST}) {
            refuses(FILLED, NONE, "ways, i " + i, x -> x.ways(0, 1, 1, i));
            refuses(FILLED, NONE, "ways, i ahead of BAD", x -> x.ways(0, 1, 0, i));
        }
        for (int d : outside(1, 3)) {
            refuses(FILLED, BAD, "ways, d " + d, x -> x.ways(0, 1, d, -1));
            refuses(FILLED, BAD, "ways, BAD ahead of no i-th", x -> x.ways(0, 1, d, 9));
        }
        for (int i : new int[] {1, 3, MOST}) refuses(FILLED, NONE, "ways, no i-th", x -> x.ways(0, 1, 3, i));
        for (int i : new int[] {0, 1, MOST}) refuses(FILLED, NONE, "ways, never", x -> x.ways(1, 1, 3, i));
    }

    private static void orders() {
        for (int form : outside(0, 4)) {
            refuses(ALL, NONE, "orders, form " + form, x -> x.orders(3, form, 0, 1, -1));
            refuses(ALL, NONE, "orders, form ahead of BAD", x -> x.orders(0, form, 100, 4, -1));
        }
        for (int i : new int[] {-2, LEAST}) {
            refuses(ALL, NONE, "orders, i " + i, x -> x.orders(3, 0, 0, 1, i));
            refuses(ALL, NONE, "orders, i ahead of BAD", x -> x.orders(1, 0, 100, 4, i));
        }
        for (int n : outside(0, 99)) refuses(FILLED, BAD, "orders, n " + n, x -> x.orders(3, 0, n, 1, -1));
        for (int d : outside(1, 3)) {
            refuses(FILLED, BAD, "orders, d " + d, x -> x.orders(3, 0, 0, d, -1));
            refuses(FILLED, BAD, "orders, BAD ahead of no i-th", x -> x.orders(3, 0, 0, d, 2));
        }
        for (int i : new int[] {2, 3, 4, MOST}) {
            refuses(FILLED, NONE, "orders, no i-th of two", x -> x.orders(3, 4, 0, 1, i));
        }
        for (int i : new int[] {4, 5, MOST}) {
            refuses(FILLED, NONE, "orders, no i-th of four", x -> x.orders(15, 4, 0, 1, i));
        }
        for (int i : new int[] {0, 1, MOST}) {
            refuses(FILLED, NONE, "orders, none keeps it", x -> x.orders(3, 1, 0, 3, i));
        }
    }

    private static void ordersOfNoSuch() {
        for (int boxes : new int[] {0, 1, 2, 3, 15, 255, -1, LEAST, MOST}) {
            refuses(EMPTY, BAD, "orders, of none such, " + boxes, x -> x.orders(boxes, 0, 0, 1, -1));
        }
        for (int boxes : new int[] {0, 1, 2, 4, 8, 16, 17, 24, 1 << 31 | 3, 1 << 16 | 3, 3 << 30, -1, LEAST, MOST}) {
            refuses(SOME, BAD, "orders, of " + boxes, x -> x.orders(boxes, 0, 0, 1, -1));
        }
        for (int boxes : new int[] {0, 1, 128, 31, 248, 255, 256, 257, 1 << 31 | 1, 1 << 8 | 3, -1, LEAST, MOST}) {
            refuses(BRIM, BAD, "orders, of " + boxes, x -> x.orders(boxes, 0, 0, 1, -1));
        }
    }

    private static void trace() {
        for (int i : new int[] {-1, LEAST, 0, 19, 20, MOST}) refuses(EMPTY, NONE, "trace, " + i, x -> x.trace(i));
        for (int i : new int[] {-1, LEAST, 6, 19, 20, MOST}) refuses(FILLED, NONE, "trace, " + i, x -> x.trace(i));
    }

    private static void as() {
        for (Begun begun : ALL) {
            for (int box : outside(0, begun.boxes - 1)) refuses(begun, NONE, "as, box " + box, x -> x.as(box, 0));
        }
        for (int k : outside(0, 6)) refuses(FILLED, NONE, "as, k " + k, x -> x.as(0, k));
        for (int k : new int[] {2, 3, 5, 6}) refuses(FILLED, -6, "as, of another KIND than " + k, x -> x.as(0, k));
    }

    private static void undo() {
        refuses(EMPTY, STATE, "undo, no IMAGE", WayBoxes::undo);
        Begun noImage = new Begun("no IMAGE", 1, 1, () -> {
            WayBoxes x = Due.boxes("*:t0=n,s0=n,g0=n");
            x.work(0, 1, 2, 3, 4);
            x.row(0);
            x.feed(7, 7);
            return x;
        });
        refuses(noImage, STATE, "undo, no IMAGE", WayBoxes::undo);
    }

    private static void count() {
        for (int what : outside(0, 7)) refuses(ALL, NONE, "count, " + what, x -> x.count(what));
    }

    private static void allCallsThatRefuse() {
        String[] calls = ("feed text lines part box work cell latest row send lead led hold release whole copy fall "
                + "letter shown ways orders trace as undo count").split(" ");
        for (String call : calls) due.isTrue(call + " refuses", refused.containsKey(call));
        due.is("no other does", calls.length, refused.size());
    }
}
