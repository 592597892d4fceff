/** Promises 6 to 9: box, work, cell, latest. */
public final class BoxesTest {
    private static final int NO_CELL = -2147483648;
    private static final Due due = new Due("BoxesTest");

    public static void main(String[] args) {
        boxNumbers();
        howPacketsEnd();
        whichLine();
        tests();
        sums();
        cellsOfTheirOwn();
        broken();
        workRefusals();
        cellRefusals();
        latest();
        due.end();
    }

    private static void boxNumbers() {
        WayBoxes x = new WayBoxes();
        due.is("no TEXT yet", -1, x.box(0, 0));
        Due.text(x, "*:p");
        due.is("kind 7", -1, x.box(7, 0));
        due.is("kind -1", -1, x.box(-1, 0));
        due.is("text 1", -1, x.box(0, 1));
        due.is("text -1", -1, x.box(0, -1));
        for (int i = 0; i < 8; i++) due.is("box " + i, i, x.box(i % 7, 0));
        due.is("FULL", -4, x.box(0, 0));
        due.is("NONE ahead of FULL", -1, x.box(7, 0));
        due.is("NONE ahead of FULL", -1, x.box(0, 1));
        due.is("BOXES", 8, x.count(1));
    }

    private static int worked(String bytes, int talk, int house, int kind, int n) {
        return Due.boxes(bytes).work(0, talk, house, kind, n);
    }

    private static void howPacketsEnd() {
        due.is("p", 1, worked("0:p", 0, 0, 0, 0));
        due.is("d", 0, worked("0:d", 0, 0, 0, 0));
        due.is("b", 2, worked("0:b", 0, 0, 0, 0));
        due.is("none of them", 1, worked("0:t0=1", 0, 0, 0, 0));
        due.is("no line of its KIND", 1, worked("0:d;1:d;2:d", 0, 0, 3, 0));
        due.is("no line whose E holds", 1, worked("*(n=1):d", 0, 0, 0, 0));
        WayBoxes x = Due.boxes("0:t0=1,p,t0=2,d", "0:d,g0=7", "0:g0=7,b,g0=8");
        due.is("p ahead of d", 1, x.work(0, 0, 0, 0, 0));
        due.is("nothing behind p", 1, x.cell(0, 0, 0, 0));
        due.is("d", 0, x.work(1, 0, 0, 0, 0));
        due.is("nothing behind d", 0, x.cell(1, 2, 0, 0));
        due.is("b", 2, x.work(2, 0, 0, 0, 0));
        due.is("nothing behind b", 7, x.cell(2, 2, 0, 0));
    }

    private static void whichLine() {
        WayBoxes x = Due.boxes("1(n=5):d;1(n<7):b;*(h=2):d;1:p;0:b;*:d");
        due.is("first of its kind", 0, x.work(0, 0, 0, 1, 5));
        due.is("latest", 0, x.latest(0));
        due.is("second", 2, x.work(0, 0, 0, 1, 6));
        due.is("latest", 1, x.latest(0));
        due.is("third, for any kind", 0, x.work(0, 0, 2, 1, 7));
        due.is("latest", 2, x.latest(0));
        due.is("fourth", 1, x.work(0, 0, 1, 1, 7));
        due.is("latest", 3, x.latest(0));
        due.is("fifth", 2, x.work(0, 0, 0, 0, 0));
        due.is("latest", 4, x.latest(0));
        due.is("sixth", 0, x.work(0, 0, 0, 3, 0));
        due.is("latest", 5, x.latest(0));
    }

    /** Whether an E holds for a packet of TALK 1, HOUSE 2, KIND 3, N 40 with t0 = 7, s1 = -5, g2 = 40. */
    private static void holds(String e, boolean want) {
        WayBoxes x = Due.boxes("0:t0=7,s1=0-5,g2=40;3(" + e + "):d");
        x.work(0, 1, 2, 0, 0);
        due.is(e, want ? 0 : 1, x.work(0, 1, 2, 3, 40));
    }

    private static void tests() {
        holds("k=3", true);
        holds("k=2", false);
        holds("h=2", true);
        holds("n=40", true);
        holds("n<40", false);
        holds("n<41", true);
        holds("n>39", true);
        holds("n>40", false);
        holds("40=n", true);
        holds("1<2", true);
        holds("2<1", false);
        holds("t0=7", true);
        holds("t1=0", true);
        holds("s1<0", true);
        holds("s1>0", false);
        holds("g2=n", true);
        holds("g2>t0", true);
        holds("!k=3", false);
        holds("!k=2", true);
        holds("!!k=3", true);
        holds("!!!k=3", false);
        holds("k=3&h=2", true);
        holds("k=3&h=1", false);
        holds("k=2&h=2", false);
        holds("k=2|h=2", true);
        holds("k=3|h=1", true);
        holds("k=2|h=1", false);
        // & binds before |, ! before both.
        holds("k=3|k=2&k=2", true);
        holds("(k=3|k=2)&k=2", false);
        holds("k=3&(k=2|k=3)", true);
        holds("k=3&(k=3|k=2)", true);
        holds("k=2|(k=3&k=3)", true);
        holds("k=3&(k=3&k=2)", false);
        holds("k=2&k=2|k=3", true);
        holds("k=2&(k=2|k=3)", false);
        holds("!k=2&k=2", false);
        holds("!(k=2&k=2)", true);
        holds("!k=3|k=3", true);
        holds("!(k=3|k=3)", false);
        holds("k=3&k=3&k=3&h=1", false);
        holds("k=1|k=1|k=1|h=2", true);
        holds("(k=3&(h=2|k=1)&!(n=1|(n=2)))", true);
        holds("(k=3&(h=2|k=1)&!(n=1|(n=40)))", false);
        holds("k=1|(k=3&(k=1|(k=3&(h=1|h=2))))", true);
        holds("k=1|(k=3&(k=1|(k=3&(h=1|h=0))))", false);
    }

    /** What g0 becomes for a packet of TALK 1, HOUSE 2, KIND 3, N 40. */
    private static void sum(String sum, int want) {
        WayBoxes x = Due.boxes("3:t1=5,s1=6,g1=7,g0=" + sum);
        x.work(0, 1, 2, 3, 40);
        due.is(sum, want, x.cell(0, 2, 0, 0));
    }

    private static void sums() {
        sum("0", 0);
        sum("99", 99);
        sum("10", 10);
        sum("k", 3);
        sum("h", 2);
        sum("n", 40);
        sum("t1", 5);
        sum("s1", 6);
        sum("g1", 7);
        sum("t0", 0);
        sum("1-2-3", -4);
        sum("1-2+3", 2);
        sum("n-t1-s1-g1", 22);
        sum("0-99-99-99", -297);
        sum("g0+1", 1);
        WayBoxes x = Due.boxes("0:g0=g0+g0,g1=g1+1;1:g0=1;2:g0=g0-1;3(g0<0):d");
        x.work(0, 0, 0, 1, 0);
        for (int i = 0; i < 31; i++) x.work(0, 0, 0, 0, 0);
        due.is("2 to the 31st wraps", -2147483648, x.cell(0, 2, 0, 0));
        due.is("and is below 0", 0, x.work(0, 0, 0, 3, 0));
        x.work(0, 0, 0, 2, 0);
        due.is("less 1", 2147483647, x.cell(0, 2, 0, 0));
        due.is("and is not below 0", 1, x.work(0, 0, 0, 3, 0));
        x.work(0, 0, 0, 0, 0);
        due.is("twice that wraps", -2, x.cell(0, 2, 0, 0));
    }

    /** t's of a TALK, s's of a HOUSE, g's once, and of each BOX. */
    private static void cellsOfTheirOwn() {
        WayBoxes x = Due.boxes("*:t3=t3+n,s2=s2+n,g1=g1+n", "*:p");
        x.box(3, 0);
        x.work(0, 15, 3, 0, 1);
        x.work(0, 15, 0, 0, 2);
        x.work(0, 0, 3, 0, 4);
        for (int talk = 0; talk < 16; talk++) {
            due.is("t3 of " + talk, talk == 15 ? 3 : talk == 0 ? 4 : 0, x.cell(0, 0, 3, talk));
            due.is("t2 of " + talk, 0, x.cell(0, 0, 2, talk));
        }
        for (int house = 0; house < 4; house++) {
            due.is("s2 of " + house, house == 3 ? 5 : house == 0 ? 2 : 0, x.cell(0, 1, 2, house));
            due.is("s3 of " + house, 0, x.cell(0, 1, 3, house));
        }
        due.is("g1", 7, x.cell(0, 2, 1, 0));
        due.is("g1, of anything", 7, x.cell(0, 2, 1, -99));
        due.is("g1, of anything", 7, x.cell(0, 2, 1, 16));
        due.is("another BOX of that TEXT", 0, x.cell(2, 2, 1, 0));
        x.work(2, 15, 3, 0, 9);
        due.is("its own", 9, x.cell(2, 2, 1, 0));
        due.is("the first one's stays", 7, x.cell(0, 2, 1, 0));
    }

    private static void broken() {
        WayBoxes x = Due.boxes("0:t0=1,t1=2,t2=3,t3=4,s0=5;1:t3=9,g0=6,b;2:t0=9,d");
        x.work(0, 1, 0, 0, 0);
        x.work(0, 2, 0, 0, 0);
        due.is("BROKEN", 2, x.work(0, 1, 0, 1, 0));
        for (int digit = 0; digit < 4; digit++) {
            due.is("t" + digit + " of it", 0, x.cell(0, 0, digit, 1));
            due.is("t" + digit + " of another", digit + 1, x.cell(0, 0, digit, 2));
        }
        due.is("s0 stays", 5, x.cell(0, 1, 0, 0));
        due.is("g0 became it", 6, x.cell(0, 2, 0, 0));
        due.is("DROPPED", 0, x.work(0, 2, 0, 2, 0));
        due.is("its t's stay", 9, x.cell(0, 0, 0, 2));
        due.is("its t's stay", 2, x.cell(0, 0, 1, 2));
    }

    private static void workRefusals() {
        WayBoxes x = Due.boxes("*:g0=g0+1,d");
        due.is("box 1", -1, x.work(1, 0, 0, 0, 0));
        due.is("box -1", -1, x.work(-1, 0, 0, 0, 0));
        due.is("talk 16", -1, x.work(0, 16, 0, 0, 0));
        due.is("talk -1", -1, x.work(0, -1, 0, 0, 0));
        due.is("house 4", -1, x.work(0, 0, 4, 0, 0));
        due.is("house -1", -1, x.work(0, 0, -1, 0, 0));
        due.is("kind 4", -1, x.work(0, 0, 0, 4, 0));
        due.is("kind -1", -1, x.work(0, 0, 0, -1, 0));
        due.is("n 100", -2, x.work(0, 0, 0, 0, 100));
        due.is("n -1", -2, x.work(0, 0, 0, 0, -1));
        due.is("NONE ahead of BAD", -1, x.work(0, 0, 0, 4, 100));
        due.is("NONE ahead of BAD", -1, x.work(1, 0, 0, 0, 100));
        due.is("nothing was worked", 0, x.cell(0, 2, 0, 0));
        due.is("nothing was worked", -5, x.latest(0));
        due.is("the outermost ones", 0, x.work(0, 15, 3, 3, 99));
        due.is("was worked", 1, x.cell(0, 2, 0, 0));
    }

    private static void cellRefusals() {
        WayBoxes x = Due.boxes("*:p");
        due.is("box 1", NO_CELL, x.cell(1, 2, 0, 0));
        due.is("box -1", NO_CELL, x.cell(-1, 2, 0, 0));
        due.is("letter 3", NO_CELL, x.cell(0, 3, 0, 0));
        due.is("letter -1", NO_CELL, x.cell(0, -1, 0, 0));
        due.is("digit 4", NO_CELL, x.cell(0, 0, 4, 0));
        due.is("digit -1", NO_CELL, x.cell(0, 2, -1, 0));
        due.is("talk 16", NO_CELL, x.cell(0, 0, 0, 16));
        due.is("talk -1", NO_CELL, x.cell(0, 0, 0, -1));
        due.is("house 4", NO_CELL, x.cell(0, 1, 0, 4));
        due.is("house -1", NO_CELL, x.cell(0, 1, 0, -1));
        due.is("talk 15", 0, x.cell(0, 0, 3, 15));
        due.is("house 3", 0, x.cell(0, 1, 3, 3));
    }

    private static void latest() {
        WayBoxes x = Due.boxes("0:p;1(n=3):d", "*:d");
        due.is("no packet yet", -5, x.latest(0));
        x.work(0, 0, 0, 1, 3);
        due.is("line 1", 1, x.latest(0));
        due.is("another BOX's", -5, x.latest(1));
        x.work(0, 0, 0, 1, 4);
        due.is("no line did", -5, x.latest(0));
        x.work(0, 0, 0, 0, 0);
        due.is("line 0", 0, x.latest(0));
        due.is("box 2", -1, x.latest(2));
        due.is("box -1", -1, x.latest(-1));
        x = Due.boxes("1:p", "1:d;1:d;1:d;1:d;1:d;1:d;1:d;1:d");
        due.is("no line for KIND 0", 1, x.work(0, 0, 0, 0, 0));
        due.is("none did", -5, x.latest(0));
        due.is("none of eight", 1, x.work(1, 0, 0, 0, 0));
        due.is("none did", -5, x.latest(1));
    }
}
