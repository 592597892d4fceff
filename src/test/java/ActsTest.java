/** Promises 23 to 28: act, trace, as, image, undo, count. */
public final class ActsTest {
    private static final Due due = new Due("ActsTest");

    public static void main(String[] args) {
        bodies();
        wrapping();
        noSuchAct();
        kinds();
        imageAndUndo();
        allComesBack();
        countRefusals();
        due.end();
    }

    /** A BOX of each KIND, of its number; TEXT 0 has 3 LINES, TEXT 1 (of the odd ones) has 1. */
    private static WayBoxes seven() {
        WayBoxes x = new WayBoxes();
        Due.text(x, "0:p;1:p;2:p");
        Due.text(x, "*:d");
        for (int kind = 0; kind <= 6; kind++) x.box(kind, kind % 2);
        return x;
    }

    private static void runs(int box, int act, int x, int want, int... trace) {
        WayBoxes w = seven();
        String call = "act(" + box + ", " + act + ", " + x + ")";
        due.is(call, want, w.act(box, act, x));
        due.is(call + ", bodies", trace.length, w.count(7));
        for (int i = 0; i < trace.length; i++) due.is(call + ", body " + i, trace[i], w.trace(i));
        due.is(call + ", no more", -1, w.trace(trace.length));
        due.is(call + ", none below", -1, w.trace(-1));
    }

    private static void bodies() {
        runs(0, 0, 10, 10, 1);
        runs(0, 1, 10, 7, 2, 1);
        runs(0, 2, 10, 14, 3, 2, 1);
        runs(1, 0, 10, 11, 1);
        runs(1, 1, 10, 30, 11, 2, 1);
        runs(1, 2, 10, 60, 3, 11, 2, 1);
        runs(2, 0, 10, -12, 21, 1);
        runs(2, 1, 10, -15, 2, 21, 1);
        runs(2, 2, 10, -30, 3, 2, 21, 1);
        runs(3, 0, 10, 13, 1);
        runs(3, 1, 10, 12, 2, 1);
        runs(3, 2, 10, 24 ^ 5, 31, 3, 2, 1);
        runs(4, 0, 10, 14, 1);
        runs(4, 1, 10, 31, 11, 2, 1);
        runs(4, 2, 10, (27 + 4 - 3) * 2 + 6, 41, 3, 11, 2, 1, 1);
        runs(5, 0, 10, 15, 1);
        runs(5, 1, 10, 19, 51, 2, 1);
        runs(5, 2, 10, 38 ^ 5, 31, 3, 51, 2, 1);
        runs(6, 0, 10, 17 ^ 9, 61, 1);
        runs(6, 1, 10, (17 ^ 9) - 3, 2, 61, 1);
        runs(6, 2, 10, ((17 ^ 9) - 3) * 2, 3, 2, 61, 1);
    }

    private static void wrapping() {
        int most = 2147483647;
        runs(1, 0, most, -2147483648, 1);
        runs(1, 1, most, most * 3, 11, 2, 1);
        runs(0, 2, most, (most - 3) * 2, 3, 2, 1);
        runs(6, 0, most, -2147483648 + 6 ^ 9, 61, 1);
        runs(2, 0, most - 1, -2147483648, 21, 1);
    }

    private static void noSuchAct() {
        WayBoxes x = seven();
        x.act(4, 2, 1);
        due.is("six bodies", 6, x.count(7));
        due.is("act 3", 0, x.act(4, 3, 1));
        due.is("no TRACE then", 0, x.count(7));
        due.is("no TRACE then", -1, x.trace(0));
        x.act(4, 2, 1);
        due.is("act -1", 0, x.act(4, -1, 1));
        due.is("no TRACE then", -1, x.trace(0));
        x.act(4, 2, 1);
        due.is("box 7", 0, x.act(7, 0, 1));
        due.is("no TRACE then", -1, x.trace(0));
        x.act(4, 2, 1);
        due.is("box -1", 0, x.act(-1, 0, 1));
        due.is("no TRACE then", 0, x.count(7));
        x.act(4, 2, 1);
        x.act(0, 0, 1);
        due.is("the latest act() alone", 1, x.count(7));
        due.is("the latest act() alone", -1, x.trace(1));
    }

    private static void kinds() {
        WayBoxes x = seven();
        boolean[][] is = new boolean[7][7];
        for (int kind = 0; kind <= 6; kind++) {
            is[kind][0] = true;
            is[kind][kind] = true;
        }
        is[4][1] = true;
        is[5][3] = true;
        for (int box = 0; box <= 6; box++) {
            for (int k = 0; k <= 6; k++) {
                due.is("as(" + box + ", " + k + ")", is[box][k] ? box % 2 : -6, x.as(box, k));
            }
        }
        due.is("box 7", -1, x.as(7, 0));
        due.is("box -1", -1, x.as(-1, 0));
        due.is("k 7", -1, x.as(0, 7));
        due.is("k -1", -1, x.as(0, -1));
    }

    private static void imageAndUndo() {
        WayBoxes x = new WayBoxes();
        due.is("no IMAGE", -3, x.undo());
        due.is("of nothing", 0, x.image());
        Due.text(x, "*:g0=g0+1");
        x.box(0, 0);
        due.is("back to nothing", 0, x.undo());
        due.is("no TEXTS", 0, x.count(0));
        due.is("no BOX", -1, x.latest(0));
        due.is("the first TEXT again", 0, Due.text(x, "*:d;0:d"));
        due.is("the first BOX again", 0, x.box(1, 0));
        due.is("taken again", 1, x.image());
        due.is("works", 0, x.work(0, 0, 0, 0, 0));
        due.is("undone", 1, x.undo());
        due.is("as it was", -5, x.latest(0));
        x.work(0, 0, 0, 0, 0);
        due.is("THE IMAGE stays", 1, x.undo());
        due.is("as it was", -5, x.latest(0));
        x.box(2, 0);
        due.is("two", 2, x.image());
        due.is("two", 2, x.undo());
        due.is("not of an older one", 0, x.as(1, 2));
    }

    /** An object with something in each of its places. */
    private static WayBoxes full() {
        WayBoxes x = Due.boxes("0:t0=n,s1=n,g2=n;1:d", "*:p");
        x.box(4, 0);
        x.work(0, 3, 1, 0, 9);
        x.copy(0);
        x.work(0, 3, 1, 0, 8);
        x.work(1, 3, 1, 0, 8);
        x.row(0);
        x.row(2);
        x.lead(0, 1, 32);
        x.hold(6);
        x.send(1, 0, 0, 7);
        x.letter(0, 0, 1, 0);
        x.act(2, 2, 5);
        x.feed(0x2A3A, 2);
        return x;
    }

    /** All that can be asked without a change, as one text. */
    private static String seen(WayBoxes x) {
        StringBuilder all = new StringBuilder();
        for (int what = 0; what <= 7; what++) all.append(x.count(what)).append(' ');
        for (int i = 0; i < 21; i++) all.append(x.trace(i)).append(' ');
        for (int box = 0; box < 8; box++) {
            all.append(x.latest(box)).append(x.as(box, 0)).append(x.as(box, 4)).append(' ');
            for (int talk = 0; talk < 16; talk++) {
                all.append(x.led(box, talk)).append(' ');
                for (int digit = 0; digit < 4; digit++) all.append(x.cell(box, 0, digit, talk)).append(' ');
            }
            for (int of = 0; of < 16; of++) {
                all.append(x.cell(box, 1, of % 4, of / 4)).append(' ').append(x.cell(box, 2, of % 4, 0)).append(' ');
            }
        }
        for (int text = 0; text < 8; text++) {
            for (int line = -1; line < 8; line++) all.append(x.lines(text, line)).append(' ');
            for (int cell = 0; cell < 16; cell++) {
                all.append(x.part(text, cell / 8, cell / 2 % 4, cell % 2)).append(' ');
            }
            all.append(x.shown(text, 0, 0, 3, -1)).append(x.shown(text, 0, 0, 3, 0)).append(' ');
        }
        return all.toString();
    }

    private static void changeAll(WayBoxes x) {
        x.feed(0x64, 1);
        x.text();
        Due.text(x, "*:b;*:b;*:b;*:b");
        x.box(6, 2);
        x.work(0, 7, 3, 0, 50);
        x.copy(0);
        x.copy(2);
        x.fall(1);
        x.row(-1);
        x.row(2);
        x.lead(0, 0, 65535);
        x.lead(1, 3, 9);
        x.release();
        x.hold(32768);
        x.send(15, 0, 0, 7);
        x.send(15, 1, 1, 8);
        x.letter(5, 0, 0, 0);
        x.act(0, 0, 0);
        x.feed(0x7A7A7A, 3);
    }

    private static void allComesBack() {
        WayBoxes x = full();
        String before = seen(x);
        x.image();
        due.isTrue("an IMAGE changes nothing", before.equals(seen(x)));
        for (int time = 0; time < 2; time++) {
            changeAll(x);
            due.isTrue("all is otherwise", !before.equals(seen(x)));
            due.is("undo", 3, x.undo());
            due.isTrue("all is as THE IMAGE", before.equals(seen(x)));
        }
        due.is("THE TAPE goes on", 3, x.feed(0x62, 1));
        due.is("with what it had", 2, x.text());
        x.box(0, 2);
        due.is("a BOX of that TEXT", 2, x.work(3, 0, 0, 0, 0));
        due.is("one packet waits", 1, x.release());
        due.is("the one that did", 7, x.cell(0, 0, 0, 1));
        due.is("COPIES", 1, x.copy(0));
        x.undo();
        due.is("TAKEN UP from the COPY that was", 65535 & ~8, x.fall(0));
        due.is("TAKEN UP from the COPY that was", 9, x.cell(0, 0, 0, 3));
        due.is("no COPY of that one", 0, x.copy(2));
        due.is("no letter is left", 0, x.shown(0, 2, 0, 3, -1) + x.shown(0, 0, 0, 3, -1) - 2);
        x.undo();
        due.is("the next letter", 2, x.letter(0, 0, 0, 0));
    }

    private static void countRefusals() {
        WayBoxes x = full();
        due.is("TEXTS", 2, x.count(0));
        due.is("BOXES", 3, x.count(1));
        due.is("THE ROW", 2, x.count(2));
        due.is("wait", 1, x.count(3));
        due.is("HELD", 6, x.count(4));
        due.is("letters", 1, x.count(5));
        due.is("bytes", 2, x.count(6));
        due.is("bodies", 6, x.count(7));
        due.is("what 8", -1, x.count(8));
        due.is("what -1", -1, x.count(-1));
    }
}
