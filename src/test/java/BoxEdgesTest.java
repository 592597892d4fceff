/**
 * Promises 6 to 9 and 23 to 25 with ==== 1 and ==== 2: each sentence that names an edge of what
 * BOXES and their MEMORIES, ACTS and KINDS are.
 */
public final class BoxEdgesTest {
    private static final int LEAST = Integer.MIN_VALUE, MOST = Integer.MAX_VALUE;
    private static final Due due = new Due("BoxEdgesTest");

    public static void main(String[] args) {
        eightBoxes();
        outermostPackets();
        eachCellOfItsOwn();
        emptyAtFirst();
        sumsWrap();
        wrapsWithinOneSum();
        testsOfTheOutermost();
        deepestE();
        actsOneBehindTheOther();
        firstLineThatHolds();
        withoutAnEnding();
        nothingBehindAnEnding();
        nothingOfTheNextLine();
        brokenTakesFour();
        workWhateverItLeads();
        cellOfAnything();
        latestOfEachLine();
        latestIsOfItsOwnPackets();
        bodiesWrap();
        numbersAndLinesOfBodies();
        noTraceThen();
        traceOfTheLatest();
        actsTouchNoMemory();
        eachKindForEach();
        due.end();
    }

    /** 8 BOXES at most, of KINDS 0 to 6, of TEXTS that may be the same. */
    private static void eightBoxes() {
        WayBoxes x = new WayBoxes();
        due.is("no TEXT", -1, x.box(0, 0));
        Due.text(x, "*:p");
        Due.text(x, "*:d");
        int[] kinds = {0, 1, 2, 3, 4, 5, 6, 6};
        for (int box = 0; box < 8; box++) {
            due.is("box " + box, box, x.box(kinds[box], box % 2));
            due.is("BOXES", box + 1, x.count(1));
        }
        due.is("a ninth", -4, x.box(0, 0));
        due.is("BOXES", 8, x.count(1));
        for (int box = 0; box < 8; box++) due.is("TEXT of " + box, box % 2, x.as(box, 0));
        due.is("work of a ninth", -1, x.work(8, 0, 0, 0, 0));
    }

    private static void outermostPackets() {
        WayBoxes x = Due.boxes("*:t0=t0+n,s0=h,g0=k");
        for (int talk : new int[] {0, 15}) {
            for (int house : new int[] {0, 3}) {
                for (int kind : new int[] {0, 3}) {
                    for (int n : new int[] {0, 99}) {
                        int before = x.cell(0, 0, 0, talk);
                        due.is("work", 1, x.work(0, talk, house, kind, n));
                        due.is("n of it", before + n, x.cell(0, 0, 0, talk));
                        due.is("house of it", house, x.cell(0, 1, 0, house));
                        due.is("kind of it", kind, x.cell(0, 2, 0, 0));
                    }
                }
            }
        }
    }

    /** t0 to t3 of each TALK, s0 to s3 of each HOUSE, g0 to g3 once: 84 CELLS that do not meet. */
    private static void eachCellOfItsOwn() {
        for (int digit = 0; digit < 4; digit++) {
            WayBoxes x = Due.boxes("0:t" + digit + "=n;1:s" + digit + "=n;2:g" + digit + "=n");
            for (int talk = 0; talk < 16; talk++) x.work(0, talk, 0, 0, 20 + talk);
            for (int house = 0; house < 4; house++) x.work(0, 0, house, 1, 50 + house);
            x.work(0, 0, 0, 2, 77);
            for (int other = 0; other < 4; other++) {
                boolean itself = other == digit;
                for (int talk = 0; talk < 16; talk++) {
                    due.is("t" + other + " of " + talk, itself ? 20 + talk : 0, x.cell(0, 0, other, talk));
                }
                for (int house = 0; house < 4; house++) {
                    due.is("s" + other + " of " + house, itself ? 50 + house : 0, x.cell(0, 1, other, house));
                }
                due.is("g" + other, itself ? 77 : 0, x.cell(0, 2, other, 0));
            }
        }
    }

    private static void emptyAtFirst() {
        WayBoxes x = Due.boxes("*:p");
        for (int digit = 0; digit < 4; digit++) {
            for (int talk = 0; talk < 16; talk++) due.is("t at first", 0, x.cell(0, 0, digit, talk));
            for (int house = 0; house < 4; house++) due.is("s at first", 0, x.cell(0, 1, digit, house));
            due.is("g at first", 0, x.cell(0, 2, digit, 0));
        }
        due.is("latest at first", -5, x.latest(0));
    }

    /** A BOX of which a CELL is 2 to the 31st less 1; KIND 1 adds n, KIND 2 takes n off, KIND 3 its own. */
    private static WayBoxes most(String cell) {
        WayBoxes x = Due.boxes("0:" + cell + "=" + cell + "+" + cell + "+1;1:" + cell + "=" + cell + "+n;2:" + cell
                + "=" + cell + "-n;3:" + cell + "=0-" + cell);
        for (int i = 0; i < 31; i++) x.work(0, 1, 2, 0, 0);
        return x;
    }

    private static void sumsWrap() {
        String[] cells = {"t3", "s2", "g1"};
        for (int letter = 0; letter < 3; letter++) {
            int digit = 3 - letter;
            int of = letter == 0 ? 1 : 2;
            String cell = cells[letter];
            WayBoxes x = most(cell);
            due.is(cell + " at its most", MOST, x.cell(0, letter, digit, of));
            x.work(0, 1, 2, 1, 1);
            due.is(cell + " and 1 wraps", LEAST, x.cell(0, letter, digit, of));
            x.work(0, 1, 2, 3, 0);
            due.is("0 less the least " + cell + " is it", LEAST, x.cell(0, letter, digit, of));
            x.work(0, 1, 2, 2, 1);
            due.is(cell + " less 1 wraps back", MOST, x.cell(0, letter, digit, of));
            x.work(0, 1, 2, 1, 99);
            due.is(cell + " and 99 wraps", LEAST + 98, x.cell(0, letter, digit, of));
            x.work(0, 1, 2, 2, 99);
            due.is(cell + " less 99 wraps back", MOST, x.cell(0, letter, digit, of));
            x.work(0, 1, 2, 0, 0);
            due.is("twice the most and 1", -1, x.cell(0, letter, digit, of));
        }
    }

    private static void wrapsWithinOneSum() {
        WayBoxes x = Due.boxes("0:g0=g0+g0+1;1:g1=g0+g0+g0+g0;2:g2=0-g0-g0-g0;3:g3=g0+99-99");
        for (int i = 0; i < 31; i++) x.work(0, 0, 0, 0, 0);
        for (int kind = 1; kind <= 3; kind++) x.work(0, 0, 0, kind, 0);
        due.is("four times the most", -4, x.cell(0, 2, 1, 0));
        due.is("0 less three times the most", LEAST + 3, x.cell(0, 2, 2, 0));
        due.is("over and back", MOST, x.cell(0, 2, 3, 0));
    }

    /** Numbers are compared as they are, also where their difference would wrap. */
    private static void testsOfTheOutermost() {
        String[] tests = {"g0<g1", "g0=g1", "g0>g1", "g1<g0", "g1=g0", "g1>g0", "g0<0", "g1<0", "g0>99", "g1>99"};
        boolean[] holds = {false, false, true, true, false, false, false, true, true, false};
        for (int i = 0; i < tests.length; i++) {
            WayBoxes x = Due.boxes("0:g0=g0+g0+1;1:g1=0-g0-1;2(" + tests[i] + "):d");
            for (int j = 0; j < 31; j++) x.work(0, 0, 0, 0, 0);
            x.work(0, 0, 0, 1, 0);
            due.is("the least", LEAST, x.cell(0, 2, 1, 0));
            due.is("most and least, " + tests[i], holds[i] ? 0 : 1, x.work(0, 0, 0, 2, 0));
        }
        String[] even = {"n<n", "n=n", "n>n", "0<0", "0=0", "99>99", "g3=0", "0=s3"};
        boolean[] hold = {false, true, false, false, true, false, true, true};
        for (int i = 0; i < even.length; i++) {
            due.is("even, " + even[i], hold[i] ? 0 : 1, Due.boxes("*(" + even[i] + "):d").work(0, 0, 0, 0, 99));
        }
    }

    /** An E with as much open as there may be, at each depth one T and one F still to be joined. */
    private static void deepestE() {
        String[] e = {
            "k=1|k=3&(k=1|k=3&(k=1|k=3&(k=1|k=3&(k=1|k=3&h=2))))",
            "k=3&(k=3&(k=3&(k=3&(k=3&h=2)|k=1)|k=1)|k=1)|k=1",
            "!(!(h=2)&k=3)", "!!!!h=2", "!(!(h=1|h=0)&h=3)&!h=1", "h=1|(h=1|(h=1|(h=1|(h=1|h=2))))"
        };
        for (String text : e) {
            WayBoxes x = Due.boxes("*(" + text + "):d");
            due.is(text + ", HOUSE 2", 0, x.work(0, 0, 2, 3, 0));
            if (!text.contains("h=1")) due.is(text + ", HOUSE 1", 1, x.work(0, 0, 1, 3, 0));
        }
    }

    /** What an ACT has written the next one reads, and a CELL's own SUM reads what was. */
    private static void actsOneBehindTheOther() {
        WayBoxes x = Due.boxes("*:t0=n,t1=t0+t0,t0=t1+1,s0=t0,g0=s0+t1");
        x.work(0, 3, 1, 0, 10);
        due.is("t0", 21, x.cell(0, 0, 0, 3));
        due.is("t1", 20, x.cell(0, 0, 1, 3));
        due.is("s0", 21, x.cell(0, 1, 0, 1));
        due.is("g0", 41, x.cell(0, 2, 0, 0));
        // A LINE's E is looked at ahead of its ACTS, and once.
        x = Due.boxes("*(g0=0):g0=1;*(g0=1):d");
        due.is("the first LINE alone", 1, x.work(0, 0, 0, 0, 0));
        due.is("then the second", 0, x.work(0, 0, 0, 0, 0));
    }

    private static void firstLineThatHolds() {
        WayBoxes x = Due.boxes("0(n=0):d;0(n<2):b;*(n<3):p;1:d;*(n<5):d;0:b;3:d;*:p");
        int[][] packets = {{0, 0, 0, 0}, {0, 1, 2, 1}, {0, 2, 1, 2}, {0, 3, 0, 4}, {0, 5, 2, 5}, {1, 0, 1, 2},
            {1, 3, 0, 3}, {2, 2, 1, 2}, {2, 4, 0, 4}, {2, 5, 1, 7}, {3, 0, 1, 2}, {3, 4, 0, 4}, {3, 5, 0, 6}};
        for (int[] packet : packets) {
            String call = "KIND " + packet[0] + ", n " + packet[1];
            due.is(call, packet[2], x.work(0, 0, 0, packet[0], packet[1]));
            due.is(call + ", LINE", packet[3], x.latest(0));
        }
    }

    private static void withoutAnEnding() {
        due.is("a CELL alone", 1, Due.boxes("*:t0=1").work(0, 0, 0, 0, 0));
        due.is("five CELLS", 1, Due.boxes("*:t0=1,t1=1,s0=1,g0=1,g1=1").work(0, 0, 0, 0, 0));
        WayBoxes x = Due.boxes("0:d;1:d;2:d");
        due.is("no LINE of KIND 3", 1, x.work(0, 0, 0, 3, 0));
        due.is("no LINE", -5, x.latest(0));
        x = Due.boxes("*(n=99):d;3(n>97):b");
        due.is("no E holds", 1, x.work(0, 0, 0, 3, 97));
        due.is("no LINE", -5, x.latest(0));
    }

    private static void nothingBehindAnEnding() {
        String[] endings = {"d", "p", "b"};
        for (int how = 0; how < 3; how++) {
            for (String next : endings) {
                WayBoxes x = Due.boxes("*:g0=1," + endings[how] + ",g1=1," + next + ",g2=1");
                due.is(endings[how] + " ahead of " + next, how, x.work(0, 0, 0, 0, 0));
                due.is("ahead of it", 1, x.cell(0, 2, 0, 0));
                due.is("behind it", 0, x.cell(0, 2, 1, 0));
                due.is("behind it", 0, x.cell(0, 2, 2, 0));
            }
        }
    }

    /** Nor is anything of the LINES behind it, however long they are. */
    private static void nothingOfTheNextLine() {
        for (int tests = 1; tests <= 35; tests++) {
            for (int nots = 0; nots <= 3; nots++) {
                StringBuilder bytes = new StringBuilder("0:p,p,p,p,p;1(").append("!!!", 0, nots).append("k=k");
                for (int more = 1; more < tests; more++) bytes.append("&k=k");
                bytes.append("):d");
                for (int ps = 5; ps >= 1; ps--) {
                    due.is(bytes.toString(), 1, Due.boxes(bytes.toString()).work(0, 0, 0, 0, 0));
                    bytes.delete(2, 4);
                }
            }
        }
    }

    /** BROKEN: t0 to t3 of its TALK become 0, in the BOX that broke it; all else stays. */
    private static void brokenTakesFour() {
        for (int talk : new int[] {0, 7, 15}) {
            WayBoxes x = Due.boxes("0:t0=1,t1=2,t2=3,t3=4,s3=5;1:g3=6,t2=9,b", "*:t0=n");
            for (int each = 0; each < 16; each++) x.work(0, each, each % 4, 0, 0);
            x.work(1, talk, 0, 0, 44);
            due.is("BROKEN", 2, x.work(0, talk, 2, 1, 0));
            for (int each = 0; each < 16; each++) {
                for (int digit = 0; digit < 4; digit++) {
                    due.is("t" + digit + " of " + each, each == talk ? 0 : digit + 1, x.cell(0, 0, digit, each));
                }
            }
            for (int house = 0; house < 4; house++) due.is("s3 stays", 5, x.cell(0, 1, 3, house));
            due.is("g3 became it", 6, x.cell(0, 2, 3, 0));
            due.is("another BOX's stays", 44, x.cell(1, 0, 0, talk));
        }
    }

    /** work() is of the BOX itself, whatever it leads, or is HELD. */
    private static void workWhateverItLeads() {
        WayBoxes x = Due.boxes("*:g0=g0+1,d", "*:g0=g0+1,b");
        x.row(0);
        x.lead(0, 1, 65535);
        x.hold(65535);
        due.is("led and HELD", 0, x.work(0, 3, 0, 0, 0));
        due.is("none waits", 0, x.count(3));
        due.is("worked here", 1, x.cell(0, 2, 0, 0));
        due.is("not there", 0, x.cell(1, 2, 0, 0));
        due.is("one that is led to", 2, x.work(1, 3, 0, 0, 0));
        due.is("worked there", 1, x.cell(1, 2, 0, 0));
    }

    private static void cellOfAnything() {
        WayBoxes x = Due.boxes("*:g3=n");
        x.work(0, 0, 0, 0, 8);
        for (int of : new int[] {LEAST, -1, 0, 3, 4, 15, 16, MOST}) due.is("g3 of " + of, 8, x.cell(0, 2, 3, of));
        due.is("s of the last HOUSE", 0, x.cell(0, 1, 3, 3));
        due.is("s of one behind", LEAST, x.cell(0, 1, 3, 4));
        due.is("t of the last TALK", 0, x.cell(0, 0, 3, 15));
        due.is("t of one behind", LEAST, x.cell(0, 0, 3, 16));
    }

    private static void latestOfEachLine() {
        WayBoxes x = Due.boxes("*(n=0):p;*(n=1):d;*(n=2):b;*(n=3):p;*(n=4):p;*(n=5):p;*(n=6):p;*(n=7):b");
        for (int line = 7; line >= 0; line--) {
            x.work(0, 0, 0, 0, line);
            due.is("line " + line, line, x.latest(0));
        }
        x.work(0, 0, 0, 0, 8);
        due.is("none of the eight", -5, x.latest(0));
    }

    private static void latestIsOfItsOwnPackets() {
        WayBoxes x = Due.boxes("0:d;*:p", "0:d;0:d;1:p", "*:p");
        x.row(0);
        x.row(1);
        x.send(0, 0, 0, 0);
        due.is("it ended there", 0, x.latest(0));
        due.is("none came behind it", -5, x.latest(1));
        x.send(0, 0, 1, 0);
        due.is("LINE 1", 1, x.latest(0));
        due.is("LINE 2", 2, x.latest(1));
        x.send(0, 0, 3, 0);
        due.is("LINE 1", 1, x.latest(0));
        due.is("none did", -5, x.latest(1));
        x.work(1, 0, 0, 0, 0);
        x.work(1, 0, 0, 0, 100);
        x.work(1, 16, 0, 3, 0);
        due.is("refused ones do not count", 0, x.latest(1));
        due.is("a BOX without packets", -5, x.latest(2));
        x.hold(1);
        x.send(0, 0, 0, 0);
        due.is("one that waits does not count", 1, x.latest(0));
        x.release();
        due.is("till it is sent", 0, x.latest(0));
    }

    /** BOXES of KINDS 0 to 6, numbered so; TEXT of one LINE. */
    private static WayBoxes seven() {
        WayBoxes x = new WayBoxes();
        Due.text(x, "*:p");
        for (int kind = 0; kind < 7; kind++) x.box(kind, 0);
        return x;
    }

    private static void ends(int box, int act, int with, int want) {
        due.is("act(" + box + ", " + act + ", " + with + ")", want, seven().act(box, act, with));
    }

    private static void bodiesWrap() {
        ends(0, 0, MOST, MOST);
        ends(0, 1, LEAST, MOST);
        ends(0, 2, LEAST, -2);
        ends(0, 2, 1 << 30 | 1, LEAST);
        ends(1, 0, MOST, LEAST);
        ends(1, 1, MOST, MOST * 3);
        ends(1, 1, LEAST, LEAST);
        ends(1, 1, 715827883, -2147483647);
        ends(2, 0, MOST - 1, LEAST);
        ends(2, 0, LEAST, MOST - 1);
        ends(2, 1, MOST - 1, MOST);
        ends(3, 0, MOST, LEAST + 2);
        ends(3, 2, MOST, (LEAST + 1) * 2 ^ 5);
        ends(3, 2, LEAST, (LEAST + 2) * 2 ^ 5);
        ends(4, 2, LEAST, (MOST * 3 + 4 - 1) * 2 + 6);
        ends(4, 2, MOST, ((MOST - 1) * 3 + 3) * 2 + 6);
        ends(5, 1, MOST - 4, LEAST + 4);
        ends(5, 2, LEAST, (LEAST + 9) * 2 ^ 5);
        ends(6, 0, MOST, LEAST + 6 ^ 9);
        ends(6, 1, MOST, (LEAST + 6 ^ 9) - 1);
        ends(6, 2, LEAST, ((LEAST + 7 ^ 9) - 1) * 2);
    }

    /** i is the BOX's number, 0 to 7; k the LINES of its TEXT, 1 to 8. */
    private static void numbersAndLinesOfBodies() {
        WayBoxes x = new WayBoxes();
        StringBuilder lines = new StringBuilder();
        for (int box = 0; box < 8; box++) {
            lines.append(box == 0 ? "*:p" : ";*:p");
            x.box(0, Due.text(x, lines.toString()));
        }
        for (int box = 0; box < 8; box++) {
            due.is("keeps of " + box, 100 + box, x.act(box, 0, 100));
            due.is("works of " + box, 100 - 1, x.act(box, 1, 100));
            due.is("leads of " + box, 200 - 2, x.act(box, 2, 100));
        }
    }

    /** 0, and no TRACE then: no such BOX, act; all else stays. */
    private static void noTraceThen() {
        for (int box : new int[] {-1, LEAST, 7, 8, MOST}) {
            for (int act = -1; act <= 3; act++) noTraceThen(box, act);
        }
        for (int act : new int[] {-1, LEAST, 3, MOST}) {
            for (int box = -1; box <= 7; box++) noTraceThen(box, act);
        }
        due.is("a new one", 0, new WayBoxes().act(0, 0, 5));
        String without = Seen.all(() -> {
            WayBoxes x = Made.some();
            x.act(0, 0, 5);
            return x;
        });
        for (int no : new int[] {-1, LEAST, 4, MOST}) {
            due.isTrue("nothing but THE TRACE goes", without.equals(Seen.all(() -> {
                WayBoxes x = Made.some();
                x.act(no, 0, 5);
                x.act(0, no, 5);
                x.act(0, 0, 5);
                return x;
            })));
        }
    }

    private static void noTraceThen(int box, int act) {
        WayBoxes x = seven();
        x.act(4, 2, 1);
        String call = "act(" + box + ", " + act + ")";
        due.is(call, 0, x.act(box, act, 5));
        due.is(call + ", bodies", 0, x.count(7));
        for (int i = -1; i <= 20; i++) due.is(call + ", trace " + i, -1, x.trace(i));
        due.is(call + ", the next one", 101, x.act(1, 0, 100));
        due.is(call + ", its bodies", 1, x.count(7));
    }

    private static void traceOfTheLatest() {
        WayBoxes x = seven();
        int[] six = {41, 3, 11, 2, 1, 1};
        x.act(6, 2, 1);
        x.act(4, 2, 1);
        due.is("six bodies", 6, x.count(7));
        for (int i = 0; i < 6; i++) due.is("body " + i, six[i], x.trace(i));
        for (int i : new int[] {-1, LEAST, 6, 19, 20, 21, MOST}) due.is("no body " + i, -1, x.trace(i));
        x.act(0, 0, 1);
        due.is("one body", 1, x.count(7));
        due.is("body 0", 1, x.trace(0));
        due.is("no body 1", -1, x.trace(1));
        x.work(0, 0, 0, 0, 0);
        due.is("it stays till the next act()", 1, x.count(7));
    }

    private static void actsTouchNoMemory() {
        String before = Seen.all(() -> {
            WayBoxes x = Made.some();
            x.act(0, 0, 0);
            return x;
        });
        String behind = Seen.all(() -> {
            WayBoxes x = Made.some();
            for (int box = 3; box >= 0; box--) {
                for (int act = 2; act >= 0; act--) x.act(box, act, 7);
            }
            return x;
        });
        due.isTrue("an ACT leaves THE TRACE alone behind", before.equals(behind));
    }

    /** as(): its own KIND, one above that, and no other. */
    private static void eachKindForEach() {
        String[] is = {"0", "01", "02", "03", "014", "035", "06"};
        WayBoxes x = seven();
        for (int box = 0; box < 7; box++) {
            for (int k = 0; k < 7; k++) {
                due.is("as(" + box + ", " + k + ")", is[box].indexOf('0' + k) >= 0 ? 0 : -6, x.as(box, k));
            }
            for (int k : new int[] {-1, LEAST, 7, MOST}) due.is("as(" + box + ", " + k + ")", -1, x.as(box, k));
        }
        for (int box : new int[] {-1, LEAST, 7, MOST}) due.is("as(" + box + ", 0)", -1, x.as(box, 0));
    }
}
