/** Promises 19 to 22: letter, shown, ways, orders. */
public final class PromisesTest {
    private static final Due due = new Due("PromisesTest");
    private static final String ONE_AT_A_TIME = "0(g0=0):g0=1,t0=1;0:d;2(t0=1):g0=0,t0=0;2:d";

    public static void main(String[] args) {
        letters();
        aheadOfItsOpening();
        openOnes();
        openedLast();
        packetsOfATalk();
        numbersOfTwo();
        behindBroken();
        shortestAndLeast();
        onlyPassedCount();
        emptyMemory();
        shownRefusals();
        ways();
        waysRefusals();
        orders();
        ordersOfMore();
        ordersMemories();
        ordersRefusals();
        due.end();
    }

    private static void letters() {
        WayBoxes x = new WayBoxes();
        due.is("talk 16", -1, x.letter(16, 0, 0, 0));
        due.is("talk -1", -1, x.letter(-1, 0, 0, 0));
        due.is("house 4", -1, x.letter(0, 4, 0, 0));
        due.is("house -1", -1, x.letter(0, -1, 0, 0));
        due.is("kind 4", -1, x.letter(0, 0, 4, 0));
        due.is("kind -1", -1, x.letter(0, 0, -1, 0));
        due.is("n 100", -2, x.letter(0, 0, 0, 100));
        due.is("n -1", -2, x.letter(0, 0, 0, -1));
        due.is("NONE ahead of BAD", -1, x.letter(16, 0, 0, 100));
        for (int i = 1; i <= 5; i++) due.is("letter " + i, i, x.letter(15, 3, 3, 99));
        due.is("FULL", -4, x.letter(0, 0, 0, 0));
        due.is("NONE ahead of FULL", -1, x.letter(16, 0, 0, 0));
        due.is("BAD ahead of FULL", -2, x.letter(0, 0, 0, 100));
        due.is("five", 5, x.count(5));
    }

    /** An object with one TEXT and an ALPHABET of packets, told as talk, house, kind, n. */
    private static WayBoxes alphabet(String text, int... numbers) {
        WayBoxes x = new WayBoxes();
        Due.text(x, text);
        for (int i = 0; i + 3 < numbers.length; i += 4) {
            x.letter(numbers[i], numbers[i + 1], numbers[i + 2], numbers[i + 3]);
        }
        return x;
    }

    /** THE BREACH of TEXT 0 by d: these places (none: it is SHOWN). */
    private static void breach(WayBoxes x, int form, int n, int d, int... places) {
        String call = "shown(0, " + form + ", " + n + ", " + d + ", ";
        due.is(call + "-1)", places.length == 0 ? 1 : 0, x.shown(0, form, n, d, -1));
        due.is(call + "-2)", places.length, x.shown(0, form, n, d, -2));
        for (int i = 0; i < places.length; i++) due.is(call + i + ")", places[i], x.shown(0, form, n, d, i));
        for (int i = places.length; i < 5; i++) due.is(call + i + ")", -1, x.shown(0, form, n, d, i));
    }

    private static void aheadOfItsOpening() {
        breach(alphabet("*:p", 0, 0, 1, 0), 0, 0, 3, 0);
        breach(alphabet("*:p", 0, 0, 0, 0, 1, 0, 1, 0), 0, 0, 3, 1);
        breach(alphabet("*:p", 0, 0, 0, 0, 0, 0, 2, 0, 0, 0, 3, 0), 0, 0, 3);
        // The TEXT passes KIND 1 behind a KIND 0 alone, but of any TALK.
        breach(alphabet("0:g0=1;1(g0=0):d", 0, 0, 0, 0, 0, 0, 1, 0), 0, 0, 3);
        breach(alphabet("0:g0=1;1(g0=0):d", 0, 0, 0, 0, 1, 0, 1, 0), 0, 0, 3, 0, 1);
        breach(alphabet("0:g0=1;1(g0=0):d", 0, 0, 0, 0, 1, 0, 1, 0), 0, 0, 1);
        // A KIND 2 does not take the KIND 0 back.
        breach(alphabet("1(t0=0):d;*:t0=1", 0, 0, 0, 0, 0, 0, 2, 0, 0, 0, 1, 0), 0, 0, 1);
        breach(alphabet("0:t0=1;1(t0=0):d", 0, 0, 0, 0, 0, 0, 2, 0, 0, 0, 1, 0), 0, 0, 3);
    }

    private static void openOnes() {
        int[] three = {0, 1, 0, 0, 1, 1, 0, 0, 2, 2, 0, 0};
        breach(alphabet("*:p", three), 1, 0, 3, 0);
        breach(alphabet("*:p", three), 1, 1, 3, 0, 1);
        breach(alphabet("*:p", three), 1, 2, 3);
        breach(alphabet("*:p", three), 1, 1, 1);
        breach(alphabet("*:p", 0, 1, 0, 0, 1, 1, 0, 0, 2, 1, 0, 0), 1, 2, 3, 0, 1, 2);
        // One TALK that opens again is one OPEN one.
        breach(alphabet("*:p", 0, 1, 0, 0, 0, 1, 0, 5), 1, 1, 3);
        // One TALK at a time opens, and t0 tells which: a KIND 2 of it lets the next one open.
        breach(alphabet(ONE_AT_A_TIME, 0, 1, 0, 0, 1, 1, 0, 0, 0, 1, 2, 0), 1, 1, 3);
        // A KIND 2 of another HOUSE ends the TALK, too.
        breach(alphabet(ONE_AT_A_TIME, 0, 1, 0, 0, 1, 1, 0, 0, 0, 3, 2, 0), 1, 1, 3);
        // One of another TALK, or one that is dropped, ends nothing.
        String anyEnds = "0(g0=0):g0=1;0:d;2:g0=0";
        breach(alphabet(anyEnds, 0, 1, 0, 0, 1, 1, 0, 0, 2, 1, 2, 0), 1, 1, 3, 0, 2, 1);
        breach(alphabet(anyEnds + ",d", 0, 1, 0, 0, 1, 1, 0, 0, 0, 1, 2, 0), 1, 1, 3, 0, 2, 1);
    }

    /** The HOUSE of an OPEN TALK is that of its last KIND 0. */
    private static void openedLast() {
        // TALK 0 opens in HOUSE 1, then in HOUSE 2 for good; TALK 1 opens behind that alone.
        String moved = "0(n=9&g0=0):d;0(n=0&h=1&g0=2):d;0(h=2):g0=2";
        breach(alphabet(moved, 0, 1, 0, 0, 0, 2, 0, 0, 1, 1, 0, 9), 1, 1, 3);
        breach(alphabet(moved, 0, 1, 0, 0, 0, 2, 0, 0, 1, 2, 0, 9), 1, 1, 1);
        breach(alphabet("0(n=9&g0<2):d;0:g0=g0+1", 0, 1, 0, 0, 0, 2, 0, 1, 1, 2, 0, 9), 1, 1, 3, 0, 1, 2);
    }

    private static void packetsOfATalk() {
        breach(alphabet("*:p", 3, 0, 3, 0), 2, 0, 3, 0);
        breach(alphabet("*:p", 3, 0, 3, 0), 2, 1, 3, 0, 0);
        breach(alphabet("*:p", 3, 0, 3, 0), 2, 2, 3, 0, 0, 0);
        breach(alphabet("*:p", 3, 0, 3, 0), 2, 2, 2);
        breach(alphabet("*:p", 3, 0, 3, 0), 2, 3, 3);
        breach(alphabet("3:d", 3, 0, 3, 0, 2, 0, 1, 0), 2, 1, 3, 1, 1);
        breach(alphabet("*(g0=2):d;*:g0=g0+1", 3, 0, 3, 0, 2, 0, 1, 0), 2, 2, 3);
        breach(alphabet("*(t0=1):d;*:t0=t0+1", 3, 0, 3, 0, 2, 0, 1, 0), 2, 1, 3);
    }

    private static void numbersOfTwo() {
        breach(alphabet("*:p", 0, 0, 0, 5, 1, 1, 0, 5), 3, 0, 3, 0, 1);
        breach(alphabet("*:p", 0, 0, 0, 5, 1, 1, 0, 6), 3, 0, 3);
        breach(alphabet("*:p", 0, 0, 0, 5), 3, 0, 3);
        breach(alphabet("*:p", 0, 0, 0, 5, 1, 1, 1, 5), 3, 0, 3);
        breach(alphabet("*:p", 0, 0, 0, 5, 1, 0, 0, 5), 3, 0, 1);
        breach(alphabet(ONE_AT_A_TIME, 0, 0, 0, 5, 1, 0, 0, 5, 0, 0, 2, 5), 3, 0, 3);
        breach(alphabet("0(g0=0):g0=1;0:d;2:g0=0", 0, 0, 0, 5, 1, 0, 0, 5, 2, 0, 2, 5), 3, 0, 3, 0, 2, 1);
        // TALK 0 opens with 5, then with 6 for good; TALK 1 opens behind that alone.
        String moved = "0(n=6):g0=1;0(h=3&g0=0):d;0(h=0&g0=1):d";
        breach(alphabet(moved, 0, 0, 0, 5, 0, 0, 0, 6, 1, 3, 0, 5), 3, 0, 3);
        breach(alphabet(moved, 0, 0, 0, 5, 0, 0, 0, 6, 1, 3, 0, 7), 3, 0, 3);
        breach(alphabet("0(n=6):g0=1;0(h=3&g0=0):d", 0, 0, 0, 5, 0, 0, 0, 6, 1, 3, 0, 6), 3, 0, 1);
        breach(alphabet("*:p", 1, 0, 0, 5, 0, 1, 0, 5), 3, 0, 3, 0, 1);
        // A TALK that is not OPEN has no N.
        breach(alphabet("*:p", 1, 0, 0, 0, 0, 0, 3, 0), 3, 0, 3);
        // One TALK's own N again is not another one's.
        breach(alphabet("*:p", 0, 0, 0, 5, 0, 1, 0, 5), 3, 0, 3);
    }

    private static void behindBroken() {
        breach(alphabet("1:b", 0, 0, 1, 0, 0, 0, 0, 0), 4, 0, 3, 0, 1);
        breach(alphabet("1:b", 0, 0, 1, 0, 1, 0, 0, 0), 4, 0, 3);
        breach(alphabet("1:b,p;*:d", 0, 0, 1, 0, 0, 0, 0, 0), 4, 0, 3);
        breach(alphabet("1:d", 0, 0, 1, 0, 0, 0, 0, 0), 4, 0, 3);
        breach(alphabet("1:b", 0, 0, 1, 0, 0, 0, 0, 0), 4, 0, 1);
        breach(alphabet("2:b;*(g0=1):g0=2;*:g0=1,d", 0, 0, 2, 0, 0, 0, 0, 0, 1, 0, 0, 0), 4, 0, 3, 0, 1, 1);
    }

    private static void shortestAndLeast() {
        // Shorter ahead of less: 1 alone, though 0, 0 is less.
        breach(alphabet("0:g0=g0+1;0(g0=1):d", 0, 0, 0, 0, 0, 0, 1, 0), 0, 0, 3, 1);
        // Of rows of two the least.
        breach(alphabet("*:p", 3, 0, 0, 0, 2, 0, 0, 0, 2, 0, 0, 0), 1, 1, 3, 0, 1);
        breach(alphabet("*:p", 3, 1, 0, 0, 2, 0, 0, 0, 4, 0, 0, 0, 5, 1, 0, 0), 1, 1, 3, 0, 3);
        breach(alphabet("*:p", 3, 1, 3, 0, 2, 0, 0, 0, 4, 0, 0, 0), 1, 1, 3, 1, 2);
        // All five packets come into question.
        int[] five = {0, 0, 3, 0, 1, 0, 3, 0, 2, 0, 3, 0, 3, 0, 3, 0, 4, 0, 1, 0};
        breach(alphabet("*:p", five), 0, 0, 3, 4);
        breach(alphabet("1:d", five), 0, 0, 3);
        breach(alphabet("1:p;*:d", five), 2, 1, 3, 4, 4);
        // An ALPHABET without a packet has no rows.
        breach(alphabet("*:p"), 2, 0, 3);
    }

    private static void onlyPassedCount() {
        breach(alphabet("1:d", 0, 0, 1, 0), 0, 0, 3);
        breach(alphabet("1:b", 0, 0, 1, 0), 0, 0, 3);
        breach(alphabet("0:d", 0, 0, 0, 0, 0, 0, 1, 0), 0, 0, 3, 1);
        breach(alphabet("0:b", 0, 0, 0, 0), 1, 0, 3);
        breach(alphabet("0:d", 0, 0, 0, 0), 2, 0, 3);
        breach(alphabet("0(h=1):d", 0, 0, 0, 5, 1, 1, 0, 5), 3, 0, 3);
    }

    /** Rows begin with an empty MEMORY, each one; no BOX's MEMORY and no row is touched. */
    private static void emptyMemory() {
        WayBoxes x = alphabet("*(g0=2):p;*:g0=g0+1,d", 0, 0, 0, 0, 1, 0, 3, 0);
        x.box(0, 0);
        x.work(0, 0, 0, 0, 0);
        x.work(0, 0, 0, 0, 0);
        x.work(0, 0, 0, 0, 0);
        breach(x, 2, 0, 2);
        breach(x, 2, 0, 3, 0, 0, 0);
        breach(x, 2, 0, 3, 0, 0, 0);
        due.is("the BOX's g0", 2, x.cell(0, 2, 0, 0));
        breach(alphabet("*(t0=1):p;*:t0=1,d", 0, 0, 0, 0, 1, 0, 3, 0), 2, 0, 3, 0, 0);
        breach(alphabet("*(s0=1):p;*:s0=1,d", 0, 0, 0, 0, 1, 1, 3, 0), 2, 0, 3, 0, 0);
    }

    private static void shownRefusals() {
        WayBoxes x = alphabet("*:p", 0, 0, 1, 0);
        due.is("text 1", -1, x.shown(1, 0, 0, 1, -1));
        due.is("text -1", -1, x.shown(-1, 0, 0, 1, -1));
        due.is("form 5", -1, x.shown(0, 5, 0, 1, -1));
        due.is("form -1", -1, x.shown(0, -1, 0, 1, -1));
        due.is("i -3", -1, x.shown(0, 0, 0, 1, -3));
        due.is("n 100", -2, x.shown(0, 0, 100, 1, -1));
        due.is("n -1", -2, x.shown(0, 0, -1, 1, -1));
        due.is("d 0", -2, x.shown(0, 0, 0, 0, -1));
        due.is("d 4", -2, x.shown(0, 0, 0, 4, -1));
        due.is("NONE ahead of BAD", -1, x.shown(0, 5, 100, 4, -1));
        due.is("i -3 ahead of BAD", -1, x.shown(0, 0, 100, 4, -3));
        due.is("BAD ahead of no i-th", -2, x.shown(0, 0, 0, 4, 7));
        due.is("no 1st", -1, x.shown(0, 0, 0, 3, 1));
        due.is("n 99", 0, x.shown(0, 0, 99, 3, -1));
    }

    /** The shortest row at which TEXTS 0 and 1 part ways by d. */
    private static void parts(String one, String other, int d, int... places) {
        WayBoxes x = alphabet(one, 0, 0, 0, 1, 1, 0, 1, 2, 0, 1, 2, 3);
        Due.text(x, other);
        String call = "ways of '" + one + "' and '" + other + "' by " + d + ", ";
        for (int swapped = 0; swapped <= 1; swapped++) {
            int a = swapped, b = 1 - swapped;
            due.is(call + "-1", places.length, x.ways(a, b, d, -1));
            for (int i = 0; i < places.length; i++) due.is(call + i, places[i], x.ways(a, b, d, i));
            due.is(call + "no more", -1, x.ways(a, b, d, places.length));
        }
    }

    private static void ways() {
        parts("*:p", "*:p", 3);
        parts("*:p", "*:t0=1", 3);
        parts("*:p", "2:d", 3, 2);
        parts("*:p", "1:b", 3, 1);
        parts("*:d", "*:b", 3, 0);
        parts("*:p", "*(g0=1):d;*:g0=1", 3, 0, 0);
        parts("*:p", "*(g0=1):d;*:g0=1", 1);
        parts("*:p", "1(t0=1):d;1:t0=1", 3, 1, 1);
        parts("*:p", "*(g0=2):d;*:g0=g0+1", 3, 0, 0, 0);
        parts("*:p", "*(g0=2):d;*:g0=g0+1", 2);
        parts("*:p", "*(g0=3):d;*:g0=g0+1", 3);
        parts("2(g0=2):b;1:g0=g0+1", "1:g0=g0+1", 3, 1, 1, 2);
        // Each of the two has a MEMORY of its own.
        parts("*:g0=g0+1,p", "*(g0=1):d", 3);
        WayBoxes x = alphabet("*:g0=g0+1,p;*:d", 0, 0, 0, 1);
        due.is("a TEXT and itself", 0, x.ways(0, 0, 3, -1));
        x = alphabet("*:d");
        Due.text(x, "*:p");
        due.is("no packets", 0, x.ways(0, 1, 3, -1));
    }

    private static void waysRefusals() {
        WayBoxes x = alphabet("*:p", 0, 0, 0, 1);
        Due.text(x, "*:d");
        due.is("a 2", -1, x.ways(2, 0, 1, -1));
        due.is("a -1", -1, x.ways(-1, 0, 1, -1));
        due.is("b 2", -1, x.ways(0, 2, 1, -1));
        due.is("b -1", -1, x.ways(0, -1, 1, -1));
        due.is("i -2", -1, x.ways(0, 1, 1, -2));
        due.is("d 0", -2, x.ways(0, 1, 0, -1));
        due.is("d 4", -2, x.ways(0, 1, 4, -1));
        due.is("NONE ahead of BAD", -1, x.ways(0, 2, 4, -1));
        due.is("i -2 ahead of BAD", -1, x.ways(0, 1, 4, -2));
        due.is("BAD ahead of no i-th", -2, x.ways(0, 1, 4, 9));
        due.is("no 1st", -1, x.ways(0, 1, 3, 1));
        due.is("0th", 0, x.ways(0, 1, 3, 0));
    }

    /** How many orders of told BOXES keep a PROMISE, and the first that does. */
    private static void keep(WayBoxes x, int boxes, int form, int n, int d, int many, int... first) {
        String call = "orders(" + boxes + ", " + form + ", " + n + ", " + d + ", ";
        due.is(call + "-1)", many, x.orders(boxes, form, n, d, -1));
        for (int i = 0; i < first.length; i++) due.is(call + i + ")", first[i], x.orders(boxes, form, n, d, i));
        due.is(call + first.length + ")", -1, x.orders(boxes, form, n, d, first.length));
    }

    /**
     * 0 counts what comes to it, and passes 2; 1 drops KIND 3; 2 passes all; 3 breaks KIND 3; 4
     * drops all.
     */
    private static WayBoxes five() {
        WayBoxes x = Due.boxes("*(g0>1):d;*:g0=g0+1", "3:d", "*:p", "3:b", "*:d");
        x.letter(0, 0, 0, 0);
        x.letter(0, 0, 3, 0);
        return x;
    }

    private static void orders() {
        WayBoxes x = five();
        keep(x, 3, 2, 2, 3, 2, 0, 1);
        keep(x, 3, 2, 1, 3, 0);
        keep(x, 6, 2, 3, 3, 2, 1, 2);
        keep(x, 6, 2, 2, 3, 0);
        keep(x, 20, 2, 0, 3, 2, 2, 4);
        // BROKEN by any of them; behind 1 nothing comes to 3 that it breaks.
        keep(x, 10, 4, 0, 3, 1, 1, 3);
        keep(x, 12, 4, 0, 3, 0);
        keep(x, 14, 4, 0, 3, 3, 1, 2, 3);
        keep(x, 15, 4, 0, 3, 12, 0, 1, 2, 3);
        keep(x, 24, 4, 0, 3, 2, 3, 4);
    }

    private static void ordersOfMore() {
        // 0 marks KIND 0 as seen behind what 1 lets through; the least order that keeps is not 0, 1.
        WayBoxes x = Due.boxes("0:g0=1;1(g0=0):d", "0(n=0):d", "*:p", "*:p");
        x.letter(0, 0, 0, 0);
        x.letter(0, 0, 1, 0);
        keep(x, 3, 0, 0, 3, 1, 1, 0);
        keep(x, 7, 0, 0, 3, 3, 1, 0, 2);
        keep(x, 15, 0, 0, 3, 12, 1, 0, 2, 3);
        keep(x, 15, 0, 0, 1, 24, 0, 1, 2, 3);
        x = Due.boxes("*:p", "*:p", "*:p");
        keep(x, 7, 2, 0, 3, 6, 0, 1, 2);
    }

    /** Two BOXES of one TEXT have two MEMORIES, and both begin empty in each row and each order. */
    private static void ordersMemories() {
        WayBoxes x = Due.boxes("*(g0=1):d;*:g0=1", "*:p");
        x.box(5, 0);
        x.letter(0, 0, 0, 0);
        x.work(0, 0, 0, 0, 0);
        x.lead(0, 1, 1);
        keep(x, 5, 2, 1, 3, 2, 0, 2);
        keep(x, 5, 2, 0, 3, 0);
        due.is("its MEMORY stays", 1, x.cell(0, 2, 0, 0));
        due.is("latest stays", -5, x.latest(2));
    }

    private static void ordersRefusals() {
        WayBoxes x = five();
        due.is("form 5", -1, x.orders(3, 5, 0, 1, -1));
        due.is("form -1", -1, x.orders(3, -1, 0, 1, -1));
        due.is("i -2", -1, x.orders(3, 0, 0, 1, -2));
        due.is("no box 5", -2, x.orders(33, 0, 0, 1, -1));
        due.is("no such bits", -2, x.orders(3 | 1 << 31, 0, 0, 1, -1));
        due.is("no such bits", -2, x.orders(3 | 1 << 16, 0, 0, 1, -1));
        due.is("all bits", -2, x.orders(-1, 0, 0, 1, -1));
        due.is("none", -2, x.orders(0, 0, 0, 1, -1));
        due.is("one", -2, x.orders(4, 0, 0, 1, -1));
        due.is("five", -2, x.orders(31, 0, 0, 1, -1));
        due.is("n 100", -2, x.orders(3, 0, 100, 1, -1));
        due.is("n -1", -2, x.orders(3, 0, -1, 1, -1));
        due.is("d 0", -2, x.orders(3, 0, 0, 0, -1));
        due.is("d 4", -2, x.orders(3, 0, 0, 4, -1));
        due.is("NONE ahead of BAD", -1, x.orders(0, 5, 100, 4, -1));
        due.is("i -2 ahead of BAD", -1, x.orders(0, 0, 100, 4, -2));
        due.is("BAD ahead of no i-th", -2, x.orders(3, 0, 0, 4, 9));
        due.is("no 2nd", -1, x.orders(3, 0, 0, 3, 2));
        due.is("none in a new one", -2, new WayBoxes().orders(3, 0, 0, 1, -1));
    }
}
