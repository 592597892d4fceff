import java.util.function.Supplier;

/**
 * All that can be seen of an object, as one text. Each look is taken at an object made anew, so that
 * a look may change what it looks at, and none needs more calls than an object is good for.
 */
final class Seen {
    private static final int LOOKS = 11;

    private Seen() {
    }

    /** All that there is, and what THE IMAGE holds. */
    static String all(Supplier<WayBoxes> made) {
        return now(made) + made.get().undo() + "\n" + now(() -> {
            WayBoxes x = made.get();
            x.undo();
            return x;
        });
    }

    /** All that there is, but THE IMAGE. */
    static String now(Supplier<WayBoxes> made) {
        StringBuilder all = new StringBuilder();
        for (int look = 0; look < LOOKS; look++) {
            look(look, made.get(), all);
            all.append('\n');
        }
        return all.toString();
    }

    private static void look(int look, WayBoxes x, StringBuilder all) {
        switch (look) {
            case 0: numbers(x, all); break;
            case 1: parts(x, all); break;
            case 2: cells(x, 0, all); break;
            case 3: cells(x, 4, all); break;
            case 4: copies(x, 0, all); break;
            case 5: copies(x, 4, all); break;
            case 6: sent(x, 0, all); break;
            case 7: sent(x, 4, all); break;
            case 8: tape(x, all); break;
            case 9: letters(x, all); break;
            default: wholes(x, all);
        }
    }

    private static void tell(StringBuilder all, int answer) {
        all.append(answer).append(' ');
    }

    private static void numbers(WayBoxes x, StringBuilder all) {
        for (int what = 0; what < 8; what++) tell(all, x.count(what));
        for (int i = 0; i < 21; i++) tell(all, x.trace(i));
        for (int box = 0; box < 8; box++) {
            tell(all, x.latest(box));
            for (int k = 0; k < 7; k++) tell(all, x.as(box, k));
            for (int talk = 0; talk < 16; talk++) tell(all, x.led(box, talk));
            for (int line = -1; line < 8; line++) tell(all, x.lines(box, line));
        }
    }

    private static void parts(WayBoxes x, StringBuilder all) {
        for (int text = 0; text < 8; text++) {
            for (int cell = 0; cell < 8; cell++) {
                tell(all, x.part(text, cell / 4, cell % 4, 0));
                tell(all, x.part(text, cell / 4, cell % 4, 1));
            }
        }
    }

    /** The CELLS of four BOXES. */
    private static void cells(WayBoxes x, int from, StringBuilder all) {
        for (int box = from; box < from + 4; box++) {
            for (int digit = 0; digit < 4; digit++) {
                for (int talk = 0; talk < 16; talk++) tell(all, x.cell(box, 0, digit, talk));
                for (int house = 0; house < 4; house++) tell(all, x.cell(box, 1, digit, house));
                tell(all, x.cell(box, 2, digit, 0));
            }
        }
    }

    /** What four BOXES fall to, and then how many COPIES there were of each. */
    private static void copies(WayBoxes x, int from, StringBuilder all) {
        for (int box = from; box < from + 4; box++) tell(all, x.fall(box));
        cells(x, from, all);
        for (int box = from; box < from + 4; box++) tell(all, x.copy(box));
    }

    /** THE ROW, what is HELD and what waits, by what packets that are sent come to. */
    private static void sent(WayBoxes x, int from, StringBuilder all) {
        for (int talk = 0; talk < 16; talk++) tell(all, x.send(talk, talk % 4, talk % 3, 50 + talk));
        tell(all, x.release());
        cells(x, from, all);
    }

    /** The bytes of THE TAPE, by the TEXTS that they begin. */
    private static void tape(WayBoxes x, StringBuilder all) {
        tell(all, x.feed('1', 1));
        tell(all, x.feed(',' << 8 | 'd', 2));
        int text = x.text();
        tell(all, text);
        for (int line = -1; line < 8; line++) tell(all, x.lines(text, line));
        int box = x.box(0, text);
        for (int kind = 0; kind < 4; kind++) tell(all, x.work(box, 0, 0, kind, 9));
        for (int digit = 0; digit < 4; digit++) tell(all, x.cell(box, 0, digit, 0));
    }

    /** THE ALPHABET, by the rows that break PROMISES, and by TEXTS that go by one letter's numbers. */
    private static void letters(WayBoxes x, StringBuilder all) {
        for (int form = 0; form < 5; form++) {
            for (int text = 0; text < 3; text++) {
                for (int i = -2; i < 3; i++) tell(all, x.shown(text, form, 1, 3, i));
            }
            tell(all, x.orders(3, form, 1, 3, -1));
            tell(all, x.orders(3, form, 1, 3, 0));
        }
        for (int i = -1; i < 3; i++) tell(all, x.ways(0, 1, 3, i));
        int pass = Due.text(x, "*:p");
        for (int number = 0; number < 10; number++) {
            int other = Due.text(x, "*(n=" + number + "):d");
            for (int i = -1; i < 1; i++) tell(all, x.ways(pass, other, 1, i));
        }
        for (int i = 1; i <= 6; i++) tell(all, x.letter(15, 3, 3, 99));
    }

    private static void wholes(WayBoxes x, StringBuilder all) {
        for (int box = 0; box < 4; box++) {
            for (int other = 0; other < 4; other++) tell(all, x.whole(box, other, 4));
        }
        for (int box = 0; box < 8; box++) {
            for (int act = 0; act < 3; act++) tell(all, x.act(box, act, 7));
        }
    }
}
