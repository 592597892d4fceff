/**
 * Promises 10 to 18 with ==== 2 and ==== 3: each sentence that names an edge of THE ROW, of TALKS
 * that are led or HELD, of WHOLE, and of COPIES and falls.
 */
public final class RowEdgesTest {
    private static final int MOST = Integer.MAX_VALUE;
    private static final Due due = new Due("RowEdgesTest");
    /** Adds up what comes: t0 by TALK, s0 by HOUSE, g0 over all; KIND 1 is dropped, KIND 2 broken. */
    private static final String ADDS = "1:d;2:b;*:t0=t0+n,s0=s0+n,g0=g0+n,t3=t3+1";

    public static void main(String[] args) {
        sixInARow();
        oneBoxSixTimes();
        rowEmptiedAndBegunAnew();
        endsAtEachPlace();
        leadersMayStandInTheRow();
        itselfAtFirst();
        outermostTalksLed();
        goesOnceAlone();
        fromWhereItWasTillNow();
        inPlaceOfWhatWas();
        ownCellsGoNowhere();
        brokenWhereItIsLed();
        oneStepNoFurther();
        heldAddsUp();
        oldestFirst();
        twentyWait();
        twentyWaitAgain();
        waitsStayAsTheyWere();
        oneWaitsWithoutARow();
        releaseOfNothing();
        wholeWraps();
        wholeOfEachCell();
        copiesAreCounted();
        copyIsAsItIsThen();
        fallWithoutACopy();
        takenUpOfEachTalk();
        fallLeavesTheRest();
        due.end();
    }

    /** THE ROW: 6 at most. */
    private static void sixInARow() {
        WayBoxes x = Due.boxes(ADDS, ADDS, ADDS, ADDS, ADDS, ADDS, ADDS, ADDS);
        for (int place = 0; place < 6; place++) {
            due.is("row " + place, place + 1, x.row(7 - place));
            due.is("THE ROW", place + 1, x.count(2));
        }
        for (int box = 0; box < 8; box++) due.is("a seventh", -4, x.row(box));
        due.is("six stay", 6, x.count(2));
        due.is("PASSED by six", 61, x.send(0, 0, 0, 1));
        for (int box = 0; box < 8; box++) due.is("BOX " + box, box < 2 ? 0 : 1, x.cell(box, 2, 0, 0));
    }

    private static void oneBoxSixTimes() {
        WayBoxes x = Due.boxes("*(g0>7):d;*:g0=g0+1");
        for (int place = 1; place <= 6; place++) due.is("again", place, x.row(0));
        due.is("a seventh time", -4, x.row(0));
        due.is("by six steps", 61, x.send(0, 0, 0, 0));
        due.is("six steps", 6, x.cell(0, 2, 0, 0));
        due.is("at its third place", 20, x.send(0, 0, 0, 0));
        due.is("eight steps", 8, x.cell(0, 2, 0, 0));
    }

    private static void rowEmptiedAndBegunAnew() {
        WayBoxes x = Due.boxes("*:d", "*:p");
        due.is("an empty one", 0, x.row(-1));
        x.row(0);
        x.row(1);
        due.is("emptied", 0, x.row(-1));
        due.is("none", 0, x.count(2));
        due.is("STATE", -3, x.send(0, 0, 0, 0));
        due.is("anew", 1, x.row(1));
        due.is("by the new one alone", 11, x.send(0, 0, 0, 0));
    }

    private static void endsAtEachPlace() {
        String[] texts = new String[6];
        for (int box = 0; box < 6; box++) texts[box] = "0(n=" + box + "):d;1(n=" + box + "):b;*:g0=g0+1";
        WayBoxes x = Due.boxes(texts);
        for (int box = 0; box < 6; box++) x.row(box);
        for (int place = 0; place < 6; place++) {
            due.is("DROPPED at " + place, 10 * place, x.send(0, 0, 0, place));
            due.is("BROKEN at " + place, 10 * place + 2, x.send(0, 0, 1, place));
        }
        due.is("PASSED by all", 61, x.send(0, 0, 0, 6));
        // Two for each place behind it, and one for the packet that all pass.
        for (int box = 0; box < 6; box++) due.is("BOX " + box, 1 + 2 * (5 - box), x.cell(box, 2, 0, 0));
    }

    private static void leadersMayStandInTheRow() {
        WayBoxes x = Due.boxes(ADDS, ADDS, ADDS);
        x.lead(0, 2, 1);
        due.is("one that leads", 1, x.row(0));
        due.is("STATE of one that is led to", -3, x.row(2));
        due.is("one that has nothing to do with it", 2, x.row(1));
        due.is("one that leads, in THE ROW already", 2, x.lead(0, 2, 2));
        x.lead(0, 0, 65535);
        due.is("no longer led to", 3, x.row(2));
        due.is("in THE ROW", -3, x.lead(0, 2, 1));
    }

    private static void itselfAtFirst() {
        WayBoxes x = Due.boxes("*:p", "*:p", "*:p", "*:p", "*:p", "*:p", "*:p", "*:p");
        for (int box = 0; box < 8; box++) {
            for (int talk = 0; talk < 16; talk++) due.is("led", box, x.led(box, talk));
            due.is("leads none", 0, x.lead(box, box, 0));
        }
    }

    private static void outermostTalksLed() {
        for (int talk = 0; talk < 16; talk++) {
            WayBoxes x = Due.boxes(ADDS, ADDS);
            for (int each = 0; each < 16; each++) x.work(0, each, 0, 0, 1 + each);
            due.is("one TALK", 1, x.lead(0, 1, 1 << talk));
            for (int each = 0; each < 16; each++) {
                boolean went = each == talk;
                due.is("led " + each, went ? 1 : 0, x.led(0, each));
                due.is("t0 here", went ? 0 : 1 + each, x.cell(0, 0, 0, each));
                due.is("t3 here", went ? 0 : 1, x.cell(0, 0, 3, each));
                due.is("t0 there", went ? 1 + each : 0, x.cell(1, 0, 0, each));
                due.is("t3 there", went ? 1 : 0, x.cell(1, 0, 3, each));
            }
        }
        WayBoxes x = Due.boxes(ADDS, ADDS);
        due.is("no TALK", 0, x.lead(0, 1, 0));
        due.is("all TALKS", 16, x.lead(0, 1, 65535));
        due.is("none of them back", 16, x.lead(0, 0, 0));
        due.is("all of them back", 0, x.lead(0, 0, 65535));
    }

    /** If it is LED there already nothing goes. */
    private static void goesOnceAlone() {
        WayBoxes x = Due.boxes(ADDS, ADDS);
        x.work(0, 3, 0, 0, 7);
        due.is("led to itself already", 0, x.lead(0, 0, 8));
        due.is("nothing goes", 7, x.cell(0, 0, 0, 3));
        x.lead(0, 1, 8);
        x.work(0, 3, 0, 0, 9);
        due.is("led there already", 1, x.lead(0, 1, 8));
        due.is("nothing comes", 7, x.cell(1, 0, 0, 3));
        due.is("nothing goes", 9, x.cell(0, 0, 0, 3));
        due.is("led there, and one more", 2, x.lead(0, 1, 24));
        due.is("nothing comes", 7, x.cell(1, 0, 0, 3));
    }

    private static void fromWhereItWasTillNow() {
        WayBoxes x = Due.boxes(ADDS, ADDS, ADDS, ADDS);
        x.work(0, 0, 0, 0, 5);
        x.work(0, 1, 0, 0, 6);
        x.work(0, 2, 0, 0, 7);
        x.lead(0, 1, 1);
        x.lead(0, 2, 2);
        due.is("three, from three BOXES", 3, x.lead(0, 3, 7));
        for (int talk = 0; talk < 3; talk++) {
            for (int box = 0; box < 3; box++) due.is("0 where it was", 0, x.cell(box, 0, 0, talk));
            due.is("there", 5 + talk, x.cell(3, 0, 0, talk));
        }
        x.lead(0, 1, 1);
        due.is("two back and one that is there", 1, x.lead(0, 0, 6));
        due.is("back", 6, x.cell(0, 0, 0, 1));
        due.is("back", 7, x.cell(0, 0, 0, 2));
        due.is("there", 5, x.cell(1, 0, 0, 0));
    }

    private static void inPlaceOfWhatWas() {
        WayBoxes x = Due.boxes("*:t0=n", "*:t0=n,t1=n,t2=n,t3=n");
        x.work(1, 3, 0, 0, 9);
        x.lead(0, 1, 8);
        for (int digit = 0; digit < 4; digit++) due.is("an empty TALK, too", 0, x.cell(1, 0, digit, 3));
        x.work(1, 3, 0, 0, 8);
        x.work(0, 3, 0, 0, 7);
        x.lead(0, 0, 8);
        for (int digit = 0; digit < 4; digit++) {
            due.is("on the way back, too", 8, x.cell(0, 0, digit, 3));
            due.is("0 there", 0, x.cell(1, 0, digit, 3));
        }
    }

    private static void ownCellsGoNowhere() {
        WayBoxes x = Due.boxes(ADDS, ADDS);
        x.work(0, 0, 2, 0, 7);
        x.work(1, 1, 2, 0, 9);
        x.lead(0, 1, 65535);
        due.is("s0 here", 7, x.cell(0, 1, 0, 2));
        due.is("g0 here", 7, x.cell(0, 2, 0, 0));
        due.is("s0 there", 9, x.cell(1, 1, 0, 2));
        due.is("g0 there", 9, x.cell(1, 2, 0, 0));
    }

    /** A packet that is BROKEN takes the t's of the BOX that works it. */
    private static void brokenWhereItIsLed() {
        WayBoxes x = Due.boxes(ADDS, ADDS, ADDS);
        x.row(2);
        x.row(0);
        x.work(0, 1, 0, 0, 5);
        x.lead(0, 1, 2);
        x.work(0, 1, 0, 0, 6);
        x.work(1, 2, 0, 0, 7);
        x.work(2, 1, 0, 3, 8);
        due.is("BROKEN ahead of it", 2, x.send(1, 0, 2, 0));
        due.is("there it is not", 5, x.cell(1, 0, 0, 1));
        x.row(-1);
        x.row(0);
        due.is("BROKEN", 2, x.send(1, 0, 2, 0));
        due.is("there", 0, x.cell(1, 0, 0, 1));
        due.is("not here", 6, x.cell(0, 0, 0, 1));
        due.is("no other TALK there", 7, x.cell(1, 0, 0, 2));
    }

    /** A BOX that leads is led nowhere itself, and one that is led to leads none: no second step. */
    private static void oneStepNoFurther() {
        WayBoxes x = Due.boxes(ADDS, ADDS, ADDS);
        x.lead(0, 1, 1);
        due.is("from one that is led to", -3, x.lead(1, 2, 1));
        due.is("of another TALK", -3, x.lead(1, 2, 2));
        due.is("to one that leads", -3, x.lead(2, 0, 1));
        due.is("of another TALK", -3, x.lead(2, 0, 2));
        due.is("of no TALK", -3, x.lead(2, 0, 0));
        due.is("two may lead to one", 1, x.lead(2, 1, 1));
        x.row(0);
        x.row(2);
        due.is("through one BOX twice", 21, x.send(0, 0, 0, 4));
        due.is("twice", 8, x.cell(1, 2, 0, 0));
        due.is("not here", 0, x.cell(0, 2, 0, 0) + x.cell(2, 2, 0, 0));
    }

    private static void heldAddsUp() {
        WayBoxes x = new WayBoxes();
        int held = 0;
        for (int talk = 15; talk >= 0; talk--) {
            held |= 1 << talk;
            due.is("one more", 16 - talk, x.hold(1 << talk));
            due.is("as bits", held, x.count(4));
        }
        due.is("all again", 16, x.hold(65535));
        due.is("none more", 16, x.hold(0));
        due.is("one too many", -2, x.hold(65536));
        due.is("as bits", 65535, x.count(4));
        due.is("LET GO", 0, x.release());
        due.is("none", 0, x.hold(0));
    }

    private static void oldestFirst() {
        WayBoxes x = Due.boxes("*:g0=g0+g0+n");
        x.row(0);
        x.hold(32769);
        due.is("waits", -6, x.send(15, 0, 0, 1));
        due.is("does not", 11, x.send(14, 0, 0, 0));
        due.is("waits", -6, x.send(0, 0, 0, 0));
        due.is("waits", -6, x.send(15, 0, 0, 1));
        due.is("waits", -6, x.send(0, 0, 0, 1));
        due.is("LET GO", 4, x.release());
        due.is("in their order", 11, x.cell(0, 2, 0, 0));
    }

    /** 20 at most wait; a twenty-first is FULL, one that need not wait is SENT. */
    private static void twentyWait() {
        WayBoxes x = Due.boxes("*:g0=g0+1");
        x.row(0);
        x.hold(3);
        for (int i = 0; i < 20; i++) {
            due.is("waits", -6, x.send(i % 2, 0, 0, 0));
            due.is("so many", i + 1, x.count(3));
        }
        due.is("FULL", -4, x.send(0, 0, 0, 0));
        due.is("FULL", -4, x.send(1, 0, 0, 0));
        due.is("one that need not wait", 11, x.send(2, 0, 0, 0));
        due.is("20 wait", 20, x.count(3));
        due.is("it went", 1, x.cell(0, 2, 0, 0));
        x.hold(4);
        due.is("now it would have to", -4, x.send(2, 0, 0, 0));
        due.is("LET GO", 20, x.release());
        due.is("20 more went", 21, x.cell(0, 2, 0, 0));
    }

    private static void twentyWaitAgain() {
        WayBoxes x = Due.boxes("*:g0=g0+1,g1=g1+n");
        x.row(0);
        for (int time = 1; time <= 3; time++) {
            x.hold(1);
            for (int i = 0; i < 20; i++) due.is("waits", -6, x.send(0, 0, 0, time));
            due.is("FULL", -4, x.send(0, 0, 0, 99));
            due.is("LET GO", 20, x.release());
            due.is("went", 20 * time, x.cell(0, 2, 0, 0));
        }
        due.is("each once", 120, x.cell(0, 2, 1, 0));
    }

    /** What waits is SENT through THE ROW as it is when it is LET GO. */
    private static void waitsStayAsTheyWere() {
        WayBoxes x = Due.boxes("*:t0=n,s0=n,g0=k", "*:t0=n,s0=n,g0=k");
        x.row(0);
        x.hold(32768);
        x.send(15, 3, 3, 99);
        x.row(-1);
        x.row(1);
        due.is("LET GO", 1, x.release());
        due.is("not there", 0, x.cell(0, 0, 0, 15));
        due.is("TALK and N", 99, x.cell(1, 0, 0, 15));
        due.is("HOUSE", 99, x.cell(1, 1, 0, 3));
        due.is("KIND", 3, x.cell(1, 2, 0, 0));
    }

    private static void oneWaitsWithoutARow() {
        WayBoxes x = Due.boxes("*:g0=g0+1");
        x.row(0);
        x.hold(1);
        x.send(0, 0, 0, 0);
        x.row(-1);
        due.is("STATE", -3, x.release());
        due.is("it waits", 1, x.count(3));
        due.is("HELD", 1, x.count(4));
        x.row(0);
        due.is("LET GO", 1, x.release());
        due.is("it went", 1, x.cell(0, 2, 0, 0));
    }

    private static void releaseOfNothing() {
        WayBoxes x = new WayBoxes();
        x.hold(65535);
        due.is("no ROW, none waits", 0, x.release());
        due.is("none HELD", 0, x.count(4));
        x = Due.boxes("*:p");
        x.row(0);
        due.is("nothing HELD", 0, x.release());
        x.hold(5);
        due.is("none waits", 0, x.release());
        due.is("none HELD", 0, x.count(4));
        due.is("SENT at once", 11, x.send(0, 0, 0, 0));
    }

    /** The s's and g's of two BOXES are added as ints are: they wrap. */
    private static void wholeWraps() {
        for (String cell : new String[] {"s1", "g2"}) {
            WayBoxes x = Due.boxes("0:" + cell + "=" + cell + "+" + cell + "+1;1:" + cell + "=n;2:" + cell + "=0-"
                    + cell + "-n", "*:p", "*:p");
            x.box(0, 0);
            x.box(0, 0);
            for (int i = 0; i < 31; i++) x.work(0, 0, 2, 0, 0);
            for (int i = 0; i < 31; i++) x.work(4, 0, 2, 0, 0);
            x.work(3, 0, 2, 1, 1);
            int letter = cell.charAt(0) == 's' ? 1 : 2;
            due.is("the most", MOST, x.cell(0, letter, cell.charAt(1) - '0', 2));
            due.is("the most and 1 is not the most", 0, x.whole(0, 3, 4));
            x.work(4, 0, 2, 2, 1);
            due.is("the most and 1 is the least", 1, x.whole(0, 3, 4));
            due.is("the other way round, too", 1, x.whole(3, 0, 4));
            due.is("not of others", 0, x.whole(0, 1, 4));
        }
    }

    /** Each CELL of the third BOX counts. */
    private static void wholeOfEachCell() {
        for (int digit = 0; digit < 4; digit++) {
            String text = "0:t" + digit + "=1;1:s" + digit + "=1;2:g" + digit + "=1";
            for (int talk = 0; talk < 16; talk++) {
                WayBoxes x = Due.boxes(text, text, text);
                due.is("empty", 1, x.whole(0, 1, 2));
                x.work(2, talk, 0, 0, 0);
                due.is("t" + digit + " of " + talk, 0, x.whole(0, 1, 2));
                x.work(0, talk, 0, 0, 0);
                due.is("t" + digit + " of " + talk + ", both", 1, x.whole(0, 1, 2));
            }
            for (int house = 0; house < 4; house++) {
                WayBoxes x = Due.boxes(text, text, text);
                x.work(2, 0, house, 1, 0);
                due.is("s" + digit + " of " + house, 0, x.whole(0, 1, 2));
                x.work(house % 2, 0, house, 1, 0);
                due.is("s" + digit + " of " + house + ", both", 1, x.whole(0, 1, 2));
            }
            WayBoxes x = Due.boxes(text, text, text);
            x.work(2, 0, 0, 2, 0);
            due.is("g" + digit, 0, x.whole(0, 1, 2));
            x.work(digit % 2, 0, 0, 2, 0);
            due.is("g" + digit + ", both", 1, x.whole(0, 1, 2));
        }
    }

    private static void copiesAreCounted() {
        WayBoxes x = Due.boxes("*:p", "*:p", "*:p", "*:p", "*:p", "*:p", "*:p", "*:p");
        for (int time = 0; time < 30; time++) due.is("COPY " + time, time, x.copy(7));
        for (int box = 0; box < 7; box++) due.is("first of " + box, 0, x.copy(box));
        x.fall(7);
        due.is("a fall takes none", 30, x.copy(7));
    }

    private static void copyIsAsItIsThen() {
        WayBoxes x = Due.boxes("0:t3=n,s3=n,g3=n");
        x.work(0, 15, 3, 0, 1);
        x.copy(0);
        for (int n = 2; n < 5; n++) {
            x.work(0, 15, 3, 0, n);
            due.is("fall", 32767, x.fall(0));
            due.is("t3", 1, x.cell(0, 0, 3, 15));
            due.is("s3", 1, x.cell(0, 1, 3, 3));
            due.is("g3", 1, x.cell(0, 2, 3, 0));
        }
        due.is("as it was", 65535, x.fall(0));
    }

    private static void fallWithoutACopy() {
        WayBoxes x = Due.boxes("*:t0=n,t1=n,t2=n,t3=n,s3=n", "*:g3=n");
        x.copy(1);
        for (int talk = 0; talk < 16; talk++) x.work(0, talk, talk % 4, 0, 9);
        x.work(1, 0, 0, 0, 9);
        due.is("none TAKEN UP", 0, x.fall(0));
        for (int digit = 0; digit < 4; digit++) {
            for (int talk = 0; talk < 16; talk++) due.is("t's", 0, x.cell(0, 0, digit, talk));
            for (int house = 0; house < 4; house++) due.is("s's", 0, x.cell(0, 1, digit, house));
        }
        due.is("without t's all are TAKEN UP", 65535, x.fall(1));
        due.is("g3", 0, x.cell(1, 2, 3, 0));
    }

    /** TAKEN UP: TALKS of which all four t's are as they were. */
    private static void takenUpOfEachTalk() {
        for (int talk = 0; talk < 16; talk++) {
            for (int digit = 0; digit < 4; digit++) {
                WayBoxes x = Due.boxes("0:t0=n,t1=n,t2=n,t3=n;1:t" + digit + "=n;*:s0=n,g0=n");
                for (int each = 0; each < 16; each++) x.work(0, each, 0, 0, 5);
                x.copy(0);
                x.work(0, talk, 0, 1, 6);
                x.work(0, talk, 0, 2, 6);
                due.is("all but " + talk, 65535 & ~(1 << talk), x.fall(0));
                due.is("t" + digit, 5, x.cell(0, 0, digit, talk));
                x.work(0, talk, 0, 1, 6);
                x.work(0, talk, 0, 1, 5);
                x.work(0, talk, 0, 2, 6);
                due.is("there and back is as it was", 65535, x.fall(0));
                due.is("s0", 0, x.cell(0, 1, 0, 0));
            }
        }
    }

    /** A fall is of a MEMORY alone: THE ROW, what is led, HELD, waits, and latest stay. */
    private static void fallLeavesTheRest() {
        WayBoxes x = Due.boxes(ADDS, ADDS);
        x.row(0);
        x.lead(0, 1, 2);
        x.hold(4);
        x.send(2, 0, 0, 5);
        x.send(0, 0, 0, 6);
        x.send(1, 0, 0, 7);
        due.is("fall", 65534, x.fall(0));
        due.is("g0", 0, x.cell(0, 2, 0, 0));
        due.is("another one's MEMORY", 7, x.cell(1, 0, 0, 1));
        due.is("led", 1, x.led(0, 1));
        due.is("latest", 2, x.latest(0));
        due.is("THE ROW", 1, x.count(2));
        due.is("HELD", 4, x.count(4));
        due.is("LET GO", 1, x.release());
        due.is("it went", 5, x.cell(0, 0, 0, 2));
        due.is("what is led falls of its own", 65533, x.fall(1));
    }
}
