/**
 * Promises 19 to 22 with ==== 4: each sentence that names an edge of THE ALPHABET, of rows of its
 * packets, of the PROMISES, of where TEXTS part ways, and of ORDERS.
 */
public final class PromiseEdgesTest {
    private static final int MOST = Integer.MAX_VALUE;
    private static final Due due = new Due("PromiseEdgesTest");

    public static void main(String[] args) {
        fiveLetters();
        withoutLetters();
        oneLetterTwice();
        lengthsOfABreach();
        firstAndLastRow();
        neverLongerThanThree();
        nAtItsOutermost();
        kindOneAheadOfKindZero();
        kindOneOfTwoTalks();
        openTillAPassedEnd();
        openInEachHouse();
        endOfAnotherTalk();
        packetsThatPassed();
        numbersOfOpenTalks();
        numbersCarriedOn();
        brokenOfTwoTalks();
        brokenOnceForGood();
        eachRowFromEmptyMemory();
        neverPartWays();
        partAtEachLength();
        partByEachEnding();
        lastOrderAlone();
        twoToFourBoxes();
        passedByAll();
        brokenByAny();
        ordersFromEmptyMemories();
        due.end();
    }

    /** An object with one TEXT and an ALPHABET of packets, told as talk, house, kind, n. */
    private static WayBoxes alphabet(String text, int... numbers) {
        WayBoxes x = new WayBoxes();
        Due.text(x, text);
        letters(x, numbers);
        return x;
    }

    private static void letters(WayBoxes x, int... numbers) {
        for (int i = 0; i + 3 < numbers.length; i += 4) {
            x.letter(numbers[i], numbers[i + 1], numbers[i + 2], numbers[i + 3]);
        }
    }

    /** THE BREACH of TEXT 0 by d: these places (none: it is SHOWN). */
    private static void breach(WayBoxes x, int form, int n, int d, int... places) {
        String call = "shown(0, " + form + ", " + n + ", " + d + ", ";
        due.is(call + "-1)", places.length == 0 ? 1 : 0, x.shown(0, form, n, d, -1));
        due.is(call + "-2)", places.length, x.shown(0, form, n, d, -2));
        for (int i = 0; i < places.length; i++) due.is(call + i + ")", places[i], x.shown(0, form, n, d, i));
        for (int i = places.length; i < 5; i++) due.is(call + i + ")", -1, x.shown(0, form, n, d, i));
        due.is(call + MOST + ")", -1, x.shown(0, form, n, d, MOST));
        due.is(call + "-3)", -1, x.shown(0, form, n, d, -3));
    }

    /** 5 packets at most, of the outermost numbers, too. */
    private static void fiveLetters() {
        WayBoxes x = new WayBoxes();
        int[][] packets = {{0, 0, 0, 0}, {15, 3, 3, 99}, {0, 0, 0, 0}, {0, 3, 0, 99}, {15, 0, 3, 0}};
        for (int i = 0; i < 5; i++) {
            due.is("a letter", i + 1, x.letter(packets[i][0], packets[i][1], packets[i][2], packets[i][3]));
            due.is("letters", i + 1, x.count(5));
        }
        for (int[] packet : packets) due.is("a sixth", -4, x.letter(packet[0], packet[1], packet[2], packet[3]));
        due.is("five", 5, x.count(5));
        // As they came: the place of the first one of KIND 3 with N 0 is 4, of N 99 in HOUSE 3 is 1.
        Due.text(x, "3(n=0):d");
        Due.text(x, "*(n=99&h=3):d");
        Due.text(x, "*:p");
        due.is("the last letter", 4, x.ways(0, 2, 3, 0));
        due.is("the second letter", 1, x.ways(1, 2, 3, 0));
    }

    private static void withoutLetters() {
        WayBoxes x = Due.boxes("*:p", "*:d", "*:b", "*:t0=1");
        for (int form = 0; form < 5; form++) {
            for (int d = 1; d <= 3; d++) {
                breach(x, form, 0, d);
                due.is("all orders", 24, x.orders(15, form, 0, d, -1));
                due.is("the first", 3, x.orders(15, form, 0, d, 3));
            }
        }
        for (int d = 1; d <= 3; d++) {
            due.is("never", 0, x.ways(0, 1, d, -1));
            due.is("no 0th", -1, x.ways(0, 1, d, 0));
        }
    }

    /** Two letters may be the same packet; the least place is told. */
    private static void oneLetterTwice() {
        breach(alphabet("*:p", 1, 0, 3, 0, 1, 0, 3, 0, 1, 0, 3, 0), 2, 1, 3, 0, 0);
        breach(alphabet("1:p;*:d", 1, 0, 3, 0, 1, 0, 1, 0, 1, 0, 1, 0), 2, 1, 3, 1, 1);
    }

    /** A BREACH of 1, 2 or 3 packets is found by d if it is no longer than d. */
    private static void lengthsOfABreach() {
        for (int length = 1; length <= 3; length++) {
            WayBoxes x = alphabet("*:p", 7, 0, 3, 0);
            for (int d = 1; d <= 3; d++) {
                breach(x, 2, length - 1, d, d < length ? new int[0] : new int[length]);
            }
        }
    }

    private static void firstAndLastRow() {
        int[] five = {0, 0, 3, 0, 1, 0, 3, 0, 2, 0, 3, 0, 3, 0, 3, 0, 4, 0, 3, 0};
        breach(alphabet("*:p", five), 2, 0, 3, 0);
        breach(alphabet("*:p", five), 2, 1, 3, 0, 0);
        breach(alphabet("*:p", five), 2, 2, 3, 0, 0, 0);
        // What the last letter alone does, and from the third time on.
        String last = "*(n=9):g0=g0+1;*:g0=0-99,d";
        int[] nine = {0, 0, 3, 0, 1, 0, 3, 0, 2, 0, 3, 0, 3, 0, 3, 0, 4, 0, 3, 9};
        breach(alphabet(last, nine), 2, 0, 3, 4);
        breach(alphabet(last, nine), 2, 1, 3, 4, 4);
        breach(alphabet(last, nine), 2, 2, 3, 4, 4, 4);
        breach(alphabet(last, nine), 2, 2, 2);
        breach(alphabet(last, nine), 2, 3, 3);
    }

    private static void neverLongerThanThree() {
        WayBoxes x = alphabet("*(g0=3):p;*:g0=g0+1,d", 0, 0, 3, 0);
        breach(x, 2, 0, 3);
        Due.text(x, "*:d");
        due.is("four would part them", 0, x.ways(0, 1, 3, -1));
        breach(alphabet("*(g0=2):p;*:g0=g0+1,d", 0, 0, 3, 0), 2, 0, 3, 0, 0, 0);
    }

    /** n is 0 to 99, of each FORM. */
    private static void nAtItsOutermost() {
        WayBoxes x = alphabet("*:p", 0, 0, 0, 0);
        for (int form = 0; form < 5; form++) {
            due.is("n 0", form == 1 || form == 2 ? 0 : 1, x.shown(0, form, 0, 3, -1));
            due.is("n 99", 1, x.shown(0, form, 99, 3, -1));
            due.is("n 100", -2, x.shown(0, form, 100, 3, -1));
            due.is("n -1", -2, x.shown(0, form, -1, 3, -1));
        }
    }

    private static void kindOneAheadOfKindZero() {
        breach(alphabet("*:p", 4, 0, 1, 0), 0, 0, 1, 0);
        // A KIND 0 that is not PASSED does not come ahead.
        breach(alphabet("0:d", 4, 0, 0, 0), 0, 0, 3);
        breach(alphabet("0:t0=1,d;1(t0=0):d", 4, 0, 0, 0, 4, 0, 1, 0), 0, 0, 3, 0, 1);
        breach(alphabet("0:g0=1,b;1(g0=0):d", 4, 0, 0, 0, 4, 0, 1, 0), 0, 0, 3, 0, 1);
        // KINDS 2 and 3 neither break it nor come ahead.
        breach(alphabet("1:d", 4, 0, 2, 0, 4, 0, 3, 0, 4, 0, 1, 0), 0, 0, 3);
        breach(alphabet("1(g0=0):d;*:g0=1", 4, 0, 2, 0, 4, 0, 1, 0), 0, 0, 3, 0, 1);
        breach(alphabet("1(g0=0):d;*:g0=1", 4, 0, 3, 0, 4, 0, 1, 0), 0, 0, 3, 0, 1);
        // HOUSE and N do not matter.
        breach(alphabet("1(t0=0):d;*:t0=1", 4, 0, 0, 9, 4, 3, 1, 8), 0, 0, 3);
        // A KIND 0 behind it does not mend it.
        breach(alphabet("1:g0=1;0(g0=0):d", 4, 0, 0, 0, 4, 0, 1, 0), 0, 0, 3, 1);
    }

    /** A KIND 0 of each of two TALKS, and a KIND 1 of the first of them behind both. */
    private static void kindOneOfTwoTalks() {
        String behindTwo = "0:g0=g0+1;1(g0<2):d";
        breach(alphabet(behindTwo, 0, 0, 0, 0, 1, 0, 0, 0, 0, 0, 1, 0), 0, 0, 3, 1, 1, 2);
        breach(alphabet("0:g0=g0+1,t0=1;1(g0<2|t0=0):d", 0, 0, 0, 0, 15, 0, 0, 0, 0, 0, 1, 0), 0, 0, 3);
    }

    /** A TALK is OPEN from a passed KIND 0 till a passed KIND 2. */
    private static void openTillAPassedEnd() {
        String two = "0(g0=0):g0=1;0:d;2:g0=0";
        breach(alphabet(two, 0, 0, 0, 0, 1, 0, 0, 0, 0, 0, 2, 0), 1, 1, 3, 1, 2, 0);
        breach(alphabet("0(g0=0):g0=1,t0=1;0:d;2(t0=1):g0=0,t0=0;2:d", 0, 0, 0, 0, 1, 0, 0, 0, 0, 0, 2, 0), 1, 1, 3);
        breach(alphabet(two + ",d", 0, 0, 0, 0, 1, 0, 0, 0, 0, 0, 2, 0), 1, 1, 3, 0, 2, 1);
        breach(alphabet(two + ",b", 0, 0, 0, 0, 1, 0, 0, 0, 0, 0, 2, 0), 1, 1, 3, 0, 2, 1);
        // KINDS 1 and 3 open nothing and end nothing.
        breach(alphabet("*:p", 0, 0, 1, 0, 1, 0, 3, 0, 2, 0, 2, 0), 1, 0, 3);
        breach(alphabet("0(g0=0):g0=1;0:d;*:g0=0", 0, 0, 0, 0, 1, 0, 0, 0, 0, 0, 1, 0), 1, 1, 3, 0, 2, 1);
        breach(alphabet("0(g0=0):g0=1;0:d;*:g0=0", 0, 0, 0, 0, 1, 0, 0, 0, 0, 0, 3, 0), 1, 1, 3, 0, 2, 1);
        // A KIND 0 that is DROPPED or BROKEN opens nothing.
        breach(alphabet("0:d", 0, 0, 0, 0, 1, 0, 0, 0), 1, 0, 3);
        breach(alphabet("0:b", 0, 0, 0, 0, 1, 0, 0, 0), 1, 0, 3);
        // And behind its end a TALK may open once more.
        breach(alphabet("0(g0=1):d;0:g0=1;2:g0=0", 0, 0, 0, 0, 0, 0, 2, 0), 1, 1, 3);
    }

    private static void openInEachHouse() {
        for (int house = 0; house < 4; house++) {
            int other = (house + 1) % 4;
            breach(alphabet("*:p", 0, house, 0, 0, 1, house, 0, 0), 1, 1, 3, 0, 1);
            breach(alphabet("*:p", 0, house, 0, 0, 1, other, 0, 0), 1, 1, 3);
            breach(alphabet("*:p", 0, house, 0, 0, 1, other, 0, 0), 1, 0, 3, 0);
            breach(alphabet("*:p", 0, house, 0, 0, 1, other, 0, 0, 2, house, 0, 0), 1, 1, 3, 0, 2);
            breach(alphabet("*:p", 0, house, 0, 0, 1, house, 0, 0, 15, house, 0, 0), 1, 2, 3, 0, 1, 2);
            breach(alphabet("*:p", 0, house, 0, 0, 1, house, 0, 0, 15, house, 0, 0), 1, 3, 3);
        }
    }

    /** A KIND 2 of a TALK that is not OPEN leaves all others as they are. */
    private static void endOfAnotherTalk() {
        for (int house = 0; house < 4; house++) {
            breach(alphabet("*:p", 9, house, 2, 0), 1, 0, 3);
            breach(alphabet("*:p", 9, house, 2, 0, 3, house, 0, 0), 1, 1, 3);
            breach(alphabet("*:p", 9, house, 2, 0, 3, house, 0, 0), 3, 0, 3);
            breach(alphabet("0(g0=2):d;*:g0=g0+1", 3, house, 0, 0, 9, house, 2, 0), 1, 1, 3);
        }
        breach(alphabet("0(g0=0):g0=1;0(g0<2):d;2:g0=2", 0, 0, 0, 5, 1, 0, 0, 5, 2, 0, 2, 5), 3, 0, 3, 0, 2, 1);
    }

    /** FORM 2: of no TALK more than n packets, of any KIND and HOUSE, that are PASSED. */
    private static void packetsThatPassed() {
        int[] kinds = {5, 0, 0, 0, 5, 1, 1, 1, 5, 2, 2, 2, 5, 3, 3, 3};
        for (int kind = 0; kind < 4; kind++) breach(alphabet(kind + ":p;*:d", kinds), 2, 0, 3, kind);
        breach(alphabet("0(g0=0):g0=1;1(g0=1):g0=2;2(g0=2):p;*:d", kinds), 2, 2, 3, 0, 1, 2);
        breach(alphabet("0(g0=0):g0=1;1(g0=1):g0=2;2(g0=2):p;*:d", kinds), 2, 3, 3);
        breach(alphabet("*:b", kinds), 2, 0, 3);
        breach(alphabet("*:d", kinds), 2, 0, 3);
        // Two TALKS are counted apart.
        String onceEach = "*(t0=1):d;*:t0=1";
        breach(alphabet(onceEach, 0, 0, 0, 0, 15, 0, 0, 0), 2, 1, 3);
        breach(alphabet(onceEach, 0, 0, 0, 0, 15, 0, 0, 0), 2, 0, 3, 0);
    }

    private static void numbersOfOpenTalks() {
        for (int n : new int[] {0, 1, 99}) {
            breach(alphabet("*:p", 0, 0, 0, n, 15, 3, 0, n), 3, 0, 3, 0, 1);
            breach(alphabet("*:p", 0, 0, 0, n, 15, 3, 0, (n + 1) % 100), 3, 0, 3);
            breach(alphabet("*:p", 0, 0, 0, n), 3, 0, 3);
            // Of packets of KIND 0 alone.
            for (int kind = 1; kind < 4; kind++) breach(alphabet("*:p", 0, 0, 0, n, 15, 3, kind, n), 3, 0, 3);
        }
        // The first two of three differ.
        breach(alphabet("*:p", 0, 0, 0, 4, 1, 0, 0, 5, 2, 0, 0, 4), 3, 0, 3, 0, 2);
        breach(alphabet("*:p", 0, 0, 0, 4, 1, 0, 0, 5, 2, 0, 0, 5), 3, 0, 3, 1, 2);
        // One that is not PASSED opens nothing.
        breach(alphabet("0(h=3):d", 0, 0, 0, 4, 15, 3, 0, 4), 3, 0, 3);
        breach(alphabet("0(h=3):b", 0, 0, 0, 4, 15, 3, 0, 4), 3, 0, 3);
        // n does not matter.
        breach(alphabet("*:p", 0, 0, 0, 4, 1, 0, 0, 4), 3, 99, 3, 0, 1);
    }

    /** A TALK's N goes on from packet to packet, whatever other rows were gone through before. */
    private static void numbersCarriedOn() {
        // The first search of a new object, which has gone through no other row.
        due.is("the first row of two", 0, alphabet("0(t0=1):d;0:t0=1", 0, 0, 0, 5, 1, 0, 0, 5).shown(0, 3, 0, 3, 0));
        due.is("the first row of two", 0, alphabet("0(t0=1):d;0:t0=1", 0, 3, 0, 5, 1, 3, 0, 5).shown(0, 1, 1, 3, 0));
        breach(alphabet("0(t0=1):d;0:t0=1", 0, 0, 0, 5, 1, 0, 0, 5), 3, 0, 3, 0, 1);
        breach(alphabet("0(g0=1):d;0:g0=1;3:g0=0", 0, 0, 0, 5, 1, 0, 0, 5, 2, 0, 3, 0), 3, 0, 3, 0, 2, 1);
        breach(alphabet("0(g0=1):d;0:g0=1;3:g0=0", 0, 2, 0, 5, 1, 2, 0, 5, 2, 0, 3, 0), 1, 1, 3, 0, 2, 1);
        breach(alphabet("0(g0=1):d;0:g0=1;3:g0=0", 0, 2, 0, 5, 1, 1, 0, 6, 2, 0, 3, 0), 3, 0, 3);
        breach(alphabet("0(g0=1):d;0:g0=1;3:g0=0", 0, 2, 0, 5, 1, 1, 0, 6, 2, 0, 3, 0), 1, 1, 3);
    }

    private static void brokenOfTwoTalks() {
        // TALK 0 may pass behind a BROKEN packet of TALK 1 alone, which comes behind its own.
        String both = "1(h=1):g0=1,b;1:b;0(g0=0):d";
        breach(alphabet(both, 0, 0, 1, 0, 1, 1, 1, 0, 0, 0, 0, 0), 4, 0, 3, 0, 1, 2);
        breach(alphabet(both, 0, 0, 1, 0, 1, 1, 1, 0, 2, 0, 0, 0), 4, 0, 3);
        breach(alphabet(both, 0, 0, 1, 0, 1, 1, 1, 0, 1, 0, 0, 0), 4, 0, 3, 1, 2);
    }

    private static void brokenOnceForGood() {
        // Not mended by one that is DROPPED or BROKEN, nor by one of KIND 0 or 2 that passes.
        breach(alphabet("1:b", 3, 0, 1, 0), 4, 0, 3);
        for (int kind = 0; kind < 4; kind++) {
            if (kind != 1) breach(alphabet("1:b", 3, 0, 1, 0, 3, 0, kind, 0), 4, 0, 3, 0, 1);
        }
        breach(alphabet("1:b;*(g0=0):g0=1,d", 3, 0, 1, 0, 3, 0, 0, 0), 4, 0, 3, 0, 1, 1);
        breach(alphabet("1:b", 3, 0, 1, 0, 3, 0, 0, 0), 4, 0, 1);
        breach(alphabet("1:b;*(g0=0):g0=1,d", 3, 0, 1, 0, 3, 0, 0, 0), 4, 0, 2);
        // Behind it, not ahead of it.
        breach(alphabet("0:g0=1;1(g0=0):d;1:g0=2,b;*:d", 3, 0, 0, 0, 3, 0, 1, 0), 4, 0, 2);
        breach(alphabet("0(g0=0):g0=1;0:d;1:b", 3, 0, 1, 0, 3, 0, 0, 0), 4, 0, 3, 0, 1);
        // n does not matter.
        breach(alphabet("1:b", 3, 0, 1, 0, 3, 0, 0, 0), 4, 99, 3, 0, 1);
    }

    private static void eachRowFromEmptyMemory() {
        // Whatever went ahead, the first packet of a row finds all CELLS 0.
        for (String cell : new String[] {"t3", "s3", "g3"}) {
            WayBoxes x = alphabet("*(" + cell + "=0):" + cell + "=1,d;*:p", 15, 3, 3, 99);
            breach(x, 2, 0, 1);
            breach(x, 2, 0, 2, 0, 0);
            breach(x, 2, 1, 2);
            breach(x, 2, 1, 3, 0, 0, 0);
            x.box(0, 0);
            x.work(0, 15, 3, 3, 99);
            breach(x, 2, 0, 1);
            due.is("a BOX's own goes on", 1, x.work(0, 15, 3, 3, 99));
        }
    }

    /** The shortest row at which two TEXTS part ways by d, either way round. */
    private static void part(String one, String other, int d, int... places) {
        WayBoxes x = alphabet(one, 0, 0, 0, 1, 1, 0, 1, 2, 15, 3, 3, 99);
        Due.text(x, other);
        for (int a = 0; a <= 1; a++) {
            String call = "ways of '" + one + "' and '" + other + "' by " + d + ", ";
            due.is(call + "-1", places.length, x.ways(a, 1 - a, d, -1));
            for (int i = 0; i < places.length; i++) due.is(call + i, places[i], x.ways(a, 1 - a, d, i));
            for (int i = places.length; i < 4; i++) due.is(call + i, -1, x.ways(a, 1 - a, d, i));
        }
    }

    private static void neverPartWays() {
        part("*:p", "*:p", 3);
        part("*:d", "*:d", 3);
        part("*:b", "*:b", 3);
        part("*:d", "*:g0=1,d", 3);
        part("*:b", "0:b;1:b;*:t0=1,b", 3);
        part("*:p", "2:d", 3);
        part("*:t0=1", "*:p,d", 3);
        part("0:d;1:b;3:p", "3:p;1:b;0:d", 3);
        part("*(g0=3):d;*:g0=g0+1", "*:p", 3);
    }

    private static void partAtEachLength() {
        for (int length = 1; length <= 3; length++) {
            String text = "3(g0=" + (length - 1) + "):d;*:g0=g0+1";
            for (int d = 1; d <= 3; d++) {
                int[] places = new int[d < length ? 0 : length];
                if (places.length > 0) places[length - 1] = 2;
                part(text, "*:p", d, places);
            }
        }
        // Of several the least, the shorter one ahead of it.
        part("1:d;0(g0=1):d;*:g0=1", "*:p", 3, 1);
        part("*(g0=1):d;*:g0=1", "*:p", 3, 0, 0);
        part("0(g0=1):d;*:g0=1", "*:p", 3, 0, 0);
        part("1(g0=1):d;*:g0=1", "*:p", 3, 0, 1);
        part("3(t0=2):d;3:t0=t0+1", "*:p", 3, 2, 2, 2);
    }

    private static void partByEachEnding() {
        String[] endings = {"d", "p", "b"};
        for (int one = 0; one < 3; one++) {
            for (int other = 0; other < 3; other++) {
                part("*:" + endings[one], "*:" + endings[other], 3, one == other ? new int[0] : new int[1]);
            }
        }
        // A BROKEN TALK's t's are 0 for the one TEXT, and not for the other.
        part("0:t0=1,d;1:b;*(t0=1):d", "0:t0=1,d;1:b;*(t0=1):d", 3);
        part("1:t0=1,b;*:d", "1(t0=1):d;1:t0=1,b;*:d", 3);
    }

    /** How many orders of told BOXES keep a PROMISE, and the first that does. */
    private static void keep(WayBoxes x, int boxes, int form, int n, int d, int many, int... first) {
        String call = "orders(" + boxes + ", " + form + ", " + n + ", " + d + ", ";
        due.is(call + "-1)", many, x.orders(boxes, form, n, d, -1));
        for (int i = 0; i < first.length; i++) due.is(call + i + ")", first[i], x.orders(boxes, form, n, d, i));
        for (int i = first.length; i < 6; i++) due.is(call + i + ")", -1, x.orders(boxes, form, n, d, i));
        due.is(call + MOST + ")", -1, x.orders(boxes, form, n, d, MOST));
        due.is(call + "-2)", -1, x.orders(boxes, form, n, d, -2));
    }

    /** Each BOX breaks a KIND that the next one drops: the next one has to stand ahead of it. */
    private static void lastOrderAlone() {
        WayBoxes x = Due.boxes("0:b", "0:d;1:b", "1:d;2:b", "2:d");
        letters(x, 0, 0, 0, 0, 0, 0, 1, 0, 0, 0, 2, 0, 0, 0, 3, 0);
        keep(x, 15, 4, 0, 2, 1, 3, 2, 1, 0);
        keep(x, 14, 4, 0, 2, 1, 3, 2, 1);
        keep(x, 12, 4, 0, 2, 1, 3, 2);
        // Without BOX 3 nothing drops KIND 2 ahead of BOX 2.
        keep(x, 7, 4, 0, 2, 0);
        keep(x, 5, 4, 0, 2, 0);
        keep(x, 15, 4, 0, 1, 24, 0, 1, 2, 3);
    }

    /** 2 to 4 BOXES, of any numbers. */
    private static void twoToFourBoxes() {
        WayBoxes x = Due.boxes("*:p", "*:p", "*:p", "*:p", "*:p", "*:p", "*:p", "*:p");
        letters(x, 0, 0, 3, 0);
        keep(x, 1 | 128, 2, 3, 3, 2, 0, 7);
        keep(x, 64 | 128, 2, 3, 3, 2, 6, 7);
        keep(x, 1 | 8 | 128, 2, 3, 3, 6, 0, 3, 7);
        keep(x, 240, 2, 3, 3, 24, 4, 5, 6, 7);
        keep(x, 1 | 4 | 16 | 64, 2, 3, 3, 24, 0, 2, 4, 6);
        keep(x, 240, 2, 2, 3, 0);
        for (int box = 0; box < 8; box++) due.is("one", -2, x.orders(1 << box, 2, 3, 3, -1));
        due.is("none", -2, x.orders(0, 2, 3, 3, -1));
        due.is("five", -2, x.orders(31, 2, 3, 3, -1));
        due.is("eight", -2, x.orders(255, 2, 3, 3, -1));
        due.is("a ninth", -2, x.orders(256 | 1, 2, 3, 3, -1));
    }

    /** A packet counts if all the BOXES pass it; one behind that which stops it does not work it. */
    private static void passedByAll() {
        WayBoxes x = Due.boxes("*(g0=1):d;*:g0=1", "0:d", "*:p");
        letters(x, 0, 0, 0, 0, 0, 0, 3, 0);
        // 0 passes one packet alone; behind 1 that is one of KIND 3, ahead of it perhaps none.
        keep(x, 3, 2, 0, 3, 0);
        keep(x, 3, 2, 1, 3, 2, 0, 1);
        keep(x, 6, 2, 1, 3, 0);
        keep(x, 6, 2, 3, 3, 2, 1, 2);
        // 0 lets what comes second pass, if it comes to it at all.
        x = Due.boxes("*(g0=0):g0=1,d", "0:d");
        letters(x, 0, 0, 0, 0, 0, 0, 3, 0);
        keep(x, 3, 2, 0, 2, 0);
        keep(x, 3, 2, 1, 3, 0);
        x = Due.boxes("3(g0=0):d;*:g0=1", "0:d");
        letters(x, 0, 0, 0, 0, 0, 0, 3, 0);
        keep(x, 3, 2, 0, 3, 1, 1, 0);
    }

    /** BROKEN by any of the BOXES, if the packet comes to it. */
    private static void brokenByAny() {
        WayBoxes x = Due.boxes("*:p", "1:b", "1:d");
        letters(x, 0, 0, 1, 0, 0, 0, 0, 0, 5, 0, 0, 0);
        keep(x, 3, 4, 0, 3, 0);
        keep(x, 5, 4, 0, 3, 2, 0, 2);
        keep(x, 6, 4, 0, 3, 1, 2, 1);
        keep(x, 7, 4, 0, 3, 3, 0, 2, 1);
    }

    private static void ordersFromEmptyMemories() {
        WayBoxes x = Due.boxes("*(g0=1):d;*:g0=1");
        for (int box = 1; box < 4; box++) x.box(box, 0);
        letters(x, 0, 0, 0, 0);
        for (int box = 0; box < 4; box++) x.work(box, 0, 0, 0, 0);
        // Four MEMORIES of one TEXT: the first packet of each row passes all four.
        keep(x, 15, 2, 0, 3, 0);
        keep(x, 15, 2, 1, 3, 24, 0, 1, 2, 3);
        x.lead(0, 3, 65535);
        x.row(0);
        keep(x, 3, 2, 1, 3, 2, 0, 1);
        for (int box = 0; box < 4; box++) due.is("MEMORIES stay", 1, x.cell(box, 2, 0, 0));
    }
}
