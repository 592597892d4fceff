/** Promises 10 to 16: row, send, lead, led, hold, release, whole. */
public final class RowsTest {
    private static final Due due = new Due("RowsTest");
    /** Adds up what comes: t0 by TALK, s0 by HOUSE, g0 over all; KIND 1 is dropped, KIND 2 broken. */
    private static final String ADDS = "1:d;2:b;*:t0=t0+n,s0=s0+n,g0=g0+n,t3=t3+1";

    public static void main(String[] args) {
        row();
        rowOfLed();
        send();
        sendTwiceThrough();
        sendRefusals();
        lead();
        leadFromOneToAnother();
        leadOnTopOfWhatWas();
        leadRefusals();
        ledSends();
        ledRefusals();
        hold();
        release();
        releaseWithoutRow();
        full();
        whole();
        wholeByWhereItLeads();
        due.end();
    }

    private static void row() {
        WayBoxes x = Due.boxes(ADDS, ADDS);
        due.is("no box 2", -1, x.row(2));
        due.is("no box -2", -1, x.row(-2));
        due.is("first", 1, x.row(1));
        due.is("second", 2, x.row(0));
        due.is("again", 3, x.row(1));
        for (int i = 4; i <= 6; i++) due.is("to " + i, i, x.row(0));
        due.is("FULL", -4, x.row(0));
        due.is("NONE ahead of FULL", -1, x.row(2));
        due.is("stays 6", 6, x.count(2));
        due.is("empty", 0, x.row(-1));
        due.is("is 0", 0, x.count(2));
        due.is("first again", 1, x.row(0));
    }

    private static void rowOfLed() {
        WayBoxes x = Due.boxes(ADDS, ADDS, ADDS);
        for (int i = 1; i <= 6; i++) x.row(0);
        x.lead(2, 1, 1);
        due.is("STATE ahead of FULL", -3, x.row(1));
        due.is("the one that leads", -4, x.row(2));
        x.row(-1);
        due.is("STATE", -3, x.row(1));
        due.is("not in it", 0, x.count(2));
        due.is("the one that leads", 1, x.row(2));
        x.lead(2, 2, 1);
        due.is("no longer led to", 2, x.row(1));
    }

    private static void send() {
        WayBoxes x = Due.boxes("0:g0=g0+1,p;1:d;2:b", "0(n>5):d;0(n>3):b;*:g0=g0+n", "*:g0=g0+1");
        x.row(0);
        due.is("PASSED by one", 11, x.send(0, 0, 0, 9));
        x.row(1);
        x.row(2);
        due.is("DROPPED at 0", 0, x.send(0, 0, 1, 0));
        due.is("BROKEN at 0", 2, x.send(0, 0, 2, 0));
        due.is("DROPPED at 1", 10, x.send(0, 0, 0, 6));
        due.is("BROKEN at 1", 12, x.send(0, 0, 0, 5));
        due.is("none behind it worked", 0, x.cell(2, 2, 0, 0));
        due.is("none behind it worked", -5, x.latest(2));
        due.is("PASSED by three", 31, x.send(0, 0, 0, 3));
        due.is("all worked", 4, x.cell(0, 2, 0, 0));
        due.is("all worked", 3, x.cell(1, 2, 0, 0));
        due.is("all worked", 1, x.cell(2, 2, 0, 0));
        due.is("line 2 of it", 2, x.latest(1));
        due.is("no line there", 31, x.send(0, 0, 3, 1));
        due.is("none did", -5, x.latest(0));
    }

    private static void sendTwiceThrough() {
        WayBoxes x = Due.boxes("*(g0=5):d;*:g0=g0+1", "*:p");
        x.row(0);
        x.row(1);
        x.row(0);
        due.is("two steps", 31, x.send(0, 0, 0, 0));
        due.is("two steps", 2, x.cell(0, 2, 0, 0));
        due.is("two more", 31, x.send(0, 0, 0, 0));
        due.is("ends at its second place", 20, x.send(0, 0, 0, 0));
        due.is("ends at its first place", 0, x.send(0, 0, 0, 0));
    }

    private static void sendRefusals() {
        WayBoxes x = Due.boxes(ADDS);
        due.is("STATE", -3, x.send(0, 0, 0, 0));
        due.is("NONE ahead", -1, x.send(16, 0, 0, 0));
        due.is("BAD ahead", -2, x.send(0, 0, 0, 100));
        x.hold(1);
        due.is("STATE of a HELD one", -3, x.send(0, 0, 0, 0));
        due.is("none waits", 0, x.count(3));
        x.hold(0);
        x.row(0);
        due.is("talk -1", -1, x.send(-1, 0, 0, 0));
        due.is("house 4", -1, x.send(0, 4, 0, 0));
        due.is("house -1", -1, x.send(0, -1, 0, 0));
        due.is("kind 4", -1, x.send(0, 0, 4, 0));
        due.is("kind -1", -1, x.send(0, 0, -1, 0));
        due.is("n -1", -2, x.send(0, 0, 0, -1));
        due.is("NONE ahead of BAD", -1, x.send(0, 0, 4, 100));
        due.is("NONE of a HELD one", -1, x.send(0, 4, 0, 0));
        due.is("BAD of a HELD one", -2, x.send(0, 0, 0, 100));
        due.is("nothing was worked", 0, x.cell(0, 2, 0, 0));
        due.is("none waits", 0, x.count(3));
    }

    private static void lead() {
        WayBoxes x = Due.boxes(ADDS, ADDS);
        for (int talk = 0; talk < 16; talk++) x.work(0, talk, 0, 0, talk + 1);
        due.is("talks 0 and 15", 2, x.lead(0, 1, 32769));
        due.is("led 0", 1, x.led(0, 0));
        due.is("led 15", 1, x.led(0, 15));
        due.is("led 1", 0, x.led(0, 1));
        due.is("of the other one", 1, x.led(1, 0));
        due.is("t0 went", 1, x.cell(1, 0, 0, 0));
        due.is("t3 went", 1, x.cell(1, 0, 3, 0));
        due.is("t0 of 15 went", 16, x.cell(1, 0, 0, 15));
        due.is("0 where it was", 0, x.cell(0, 0, 0, 0));
        due.is("0 where it was", 0, x.cell(0, 0, 3, 0));
        due.is("0 where it was", 0, x.cell(0, 0, 0, 15));
        due.is("others stay", 2, x.cell(0, 0, 0, 1));
        due.is("others stay", 0, x.cell(1, 0, 0, 1));
        due.is("s0 stays", 136, x.cell(0, 1, 0, 0));
        due.is("g0 stays", 136, x.cell(0, 2, 0, 0));
        due.is("s0 there stays", 0, x.cell(1, 1, 0, 0));
        due.is("g0 there stays", 0, x.cell(1, 2, 0, 0));
        due.is("no talks", 2, x.lead(0, 1, 0));
        due.is("one that is there and one more", 3, x.lead(0, 1, 3));
        due.is("nothing of it went", 1, x.cell(1, 0, 0, 0));
        due.is("all", 16, x.lead(0, 1, 65535));
        due.is("to itself", 15, x.lead(0, 0, 2));
        due.is("led 1", 0, x.led(0, 1));
        due.is("t0 is back", 2, x.cell(0, 0, 0, 1));
        due.is("0 there", 0, x.cell(1, 0, 0, 1));
        due.is("all to itself", 0, x.lead(0, 0, 65535));
        due.is("t0 of 15 is back", 16, x.cell(0, 0, 0, 15));
        due.is("none leads now", 0, x.lead(1, 1, 0));
    }

    private static void leadFromOneToAnother() {
        WayBoxes x = Due.boxes(ADDS, ADDS, ADDS);
        x.work(0, 3, 0, 0, 7);
        x.lead(0, 1, 8);
        x.work(0, 3, 0, 0, 9);
        due.is("from there on", 1, x.lead(0, 2, 8));
        due.is("led", 2, x.led(0, 3));
        due.is("what the one between had", 7, x.cell(2, 0, 0, 3));
        due.is("0 there", 0, x.cell(1, 0, 0, 3));
        due.is("what came here since stays", 9, x.cell(0, 0, 0, 3));
        due.is("free to stand in THE ROW", 1, x.row(1));
        due.is("home", 0, x.lead(0, 0, 8));
        due.is("in place of what was", 7, x.cell(0, 0, 0, 3));
    }

    private static void leadOnTopOfWhatWas() {
        WayBoxes x = Due.boxes(ADDS, "*:t0=t0+n,t1=n", ADDS);
        x.work(0, 3, 0, 0, 7);
        x.work(1, 3, 0, 0, 9);
        x.work(1, 4, 0, 0, 9);
        x.work(2, 3, 0, 0, 5);
        x.lead(0, 1, 8);
        due.is("in place of what was", 7, x.cell(1, 0, 0, 3));
        due.is("all four", 0, x.cell(1, 0, 1, 3));
        due.is("another TALK's stays", 9, x.cell(1, 0, 0, 4));
        due.is("a second one leads there", 1, x.lead(2, 1, 8));
        due.is("in place of it", 5, x.cell(1, 0, 0, 3));
        due.is("home", 0, x.lead(0, 0, 8));
        due.is("takes what is there", 5, x.cell(0, 0, 0, 3));
        due.is("the second one's is 0", 0, x.cell(1, 0, 0, 3));
    }

    private static void leadRefusals() {
        WayBoxes x = Due.boxes(ADDS, ADDS, ADDS, ADDS);
        due.is("box 4", -1, x.lead(4, 0, 1));
        due.is("box -1", -1, x.lead(-1, 0, 1));
        due.is("to 4", -1, x.lead(0, 4, 1));
        due.is("to -1", -1, x.lead(0, -1, 1));
        due.is("talks 65536", -2, x.lead(0, 1, 65536));
        due.is("talks -1", -2, x.lead(0, 1, -1));
        due.is("NONE ahead of BAD", -1, x.lead(0, 4, -1));
        x.row(0);
        x.row(1);
        due.is("another one in THE ROW", -3, x.lead(0, 1, 1));
        due.is("of no talks, too", -3, x.lead(0, 1, 0));
        due.is("the first one of THE ROW", -3, x.lead(2, 0, 1));
        due.is("BAD ahead of STATE", -2, x.lead(0, 1, -1));
        due.is("itself, in THE ROW", 0, x.lead(0, 0, 1));
        due.is("leads", 1, x.lead(0, 2, 1));
        due.is("to one that leads", -3, x.lead(3, 0, 1));
        x.row(-1);
        due.is("to one that leads, not in THE ROW", -3, x.lead(3, 0, 1));
        due.is("from one that is led to", -3, x.lead(2, 3, 1));
        due.is("from one that is led to, to itself", -3, x.lead(2, 2, 1));
        due.is("to one that another leads to", 1, x.lead(3, 2, 2));
        due.is("itself, which leads", 0, x.lead(0, 0, 1));
        due.is("still led to by 3", -3, x.lead(2, 0, 1));
        due.is("home", 0, x.lead(3, 3, 2));
        due.is("now it may", 1, x.lead(2, 0, 1));
    }

    private static void ledSends() {
        WayBoxes x = Due.boxes(ADDS, "*:t1=n,g1=g1+1,d", "*:p");
        x.row(0);
        x.row(2);
        x.lead(0, 1, 2);
        due.is("by the other one", 0, x.send(1, 0, 0, 8));
        due.is("in its MEMORY", 8, x.cell(1, 0, 1, 1));
        due.is("once", 1, x.cell(1, 2, 1, 0));
        due.is("its LINE", 0, x.latest(1));
        due.is("not here", 0, x.cell(0, 2, 0, 0));
        due.is("not here", -5, x.latest(0));
        due.is("another TALK", 21, x.send(2, 0, 0, 8));
        due.is("here", 8, x.cell(0, 2, 0, 0));
        due.is("work() goes to the BOX itself", 1, x.work(0, 1, 0, 0, 5));
        due.is("here", 13, x.cell(0, 2, 0, 0));
    }

    private static void ledRefusals() {
        WayBoxes x = Due.boxes(ADDS);
        due.is("itself", 0, x.led(0, 0));
        due.is("itself", 0, x.led(0, 15));
        due.is("box 1", -1, x.led(1, 0));
        due.is("box -1", -1, x.led(-1, 0));
        due.is("talk 16", -1, x.led(0, 16));
        due.is("talk -1", -1, x.led(0, -1));
    }

    private static void hold() {
        WayBoxes x = Due.boxes(ADDS);
        due.is("none", 0, x.hold(0));
        due.is("BAD", -2, x.hold(-1));
        due.is("BAD", -2, x.hold(65536));
        due.is("two", 2, x.hold(5));
        due.is("one of them and one more", 3, x.hold(6));
        due.is("as bits", 7, x.count(4));
        due.is("all", 16, x.hold(65535));
        due.is("as bits", 65535, x.count(4));
    }

    private static void release() {
        WayBoxes x = Due.boxes("0:g0=g0+g0,g0=g0+n,g1=g1+1", ADDS);
        x.row(0);
        x.hold(3);
        due.is("waits", -6, x.send(0, 0, 0, 1));
        due.is("does not", 11, x.send(2, 0, 3, 0));
        due.is("waits", -6, x.send(1, 1, 0, 2));
        due.is("waits", -6, x.send(0, 2, 0, 4));
        due.is("three wait", 3, x.count(3));
        due.is("none worked", 0, x.cell(0, 2, 1, 0));
        due.is("work() is not HELD", 1, x.work(0, 0, 0, 1, 0));
        due.is("LET GO", 3, x.release());
        due.is("the oldest first", 4 + 2 * (2 + 2 * 1), x.cell(0, 2, 0, 0));
        due.is("none waits", 0, x.count(3));
        due.is("none is HELD", 0, x.count(4));
        due.is("none is sent again", 0, x.release());
        due.is("once each", 3, x.cell(0, 2, 1, 0));
        due.is("sent at once now", 11, x.send(0, 0, 0, 1));
        x.hold(1);
        x.send(0, 0, 0, 9);
        x.lead(0, 1, 1);
        due.is("by where it is led now", 1, x.release());
        due.is("there", 9, x.cell(1, 0, 0, 0));
    }

    private static void releaseWithoutRow() {
        WayBoxes x = Due.boxes(ADDS);
        x.hold(9);
        due.is("none waits, THE ROW is empty", 0, x.release());
        due.is("none is HELD", 0, x.count(4));
        x.row(0);
        x.hold(9);
        x.send(3, 0, 0, 5);
        x.row(-1);
        due.is("STATE", -3, x.release());
        due.is("it waits still", 1, x.count(3));
        due.is("HELD still", 9, x.count(4));
        x.row(0);
        due.is("goes", 1, x.release());
        due.is("went", 5, x.cell(0, 2, 0, 0));
    }

    private static void full() {
        WayBoxes x = Due.boxes(ADDS);
        x.row(0);
        x.hold(6);
        for (int i = 1; i <= 20; i++) due.is("waits " + i, -6, x.send(1 + i % 2, 0, 0, 1));
        due.is("FULL", -4, x.send(1, 0, 0, 1));
        due.is("20 wait", 20, x.count(3));
        due.is("one that does not wait", 11, x.send(3, 0, 0, 1));
        x.row(-1);
        due.is("STATE ahead of FULL", -3, x.send(1, 0, 0, 1));
        due.is("BAD ahead of FULL", -2, x.send(1, 0, 0, 100));
        x.row(0);
        due.is("LET GO", 20, x.release());
        due.is("all", 21, x.cell(0, 2, 0, 0));
    }

    private static void whole() {
        WayBoxes x = Due.boxes(ADDS, ADDS, ADDS, ADDS);
        due.is("all empty", 1, x.whole(0, 1, 2));
        due.is("box 4", -1, x.whole(4, 1, 2));
        due.is("other -1", -1, x.whole(0, -1, 2));
        due.is("third 4", -1, x.whole(0, 1, 4));
        due.is("NONE ahead of BAD", -1, x.whole(0, 0, 4));
        due.is("BAD", -2, x.whole(0, 0, 1));
        due.is("BAD", -2, x.whole(0, 1, 0));
        due.is("BAD", -2, x.whole(1, 0, 0));
        x.lead(0, 1, 2);
        x.row(0);
        x.send(0, 0, 0, 3);
        x.send(1, 2, 0, 4);
        x.work(2, 0, 0, 0, 3);
        due.is("not yet", 0, x.whole(0, 1, 2));
        x.work(2, 1, 2, 0, 4);
        due.is("as if it had worked all alone", 1, x.whole(0, 1, 2));
        due.is("the t's are where the first one leads", 0, x.whole(1, 0, 2));
        x.work(1, 0, 3, 0, 5);
        due.is("an s and a g more", 0, x.whole(0, 1, 2));
        x.work(2, 15, 3, 0, 5);
        due.is("t's of another TALK", 0, x.whole(0, 1, 2));
    }

    /** s's and g's come from the second one, t's from wherever the first one leads. */
    private static void wholeByWhereItLeads() {
        WayBoxes x = Due.boxes("0:t0=t0+n;1:s3=s3+n;2:g3=g3+n", "*:p", "*:p", "*:p");
        for (int i = 0; i < 4; i++) x.box(0, 0);
        x.lead(4, 7, 32768);
        x.work(7, 15, 0, 0, 9);
        x.work(6, 15, 0, 0, 9);
        due.is("t's by a fourth one", 1, x.whole(4, 5, 6));
        x.work(7, 0, 0, 1, 9);
        x.work(7, 0, 0, 2, 9);
        due.is("its s's and g's do not count", 1, x.whole(4, 5, 6));
        x.work(5, 0, 0, 0, 9);
        due.is("the second one's t's do not count", 1, x.whole(4, 5, 6));
        x.work(5, 0, 3, 1, 9);
        due.is("its s's do", 0, x.whole(4, 5, 6));
        x.work(6, 0, 3, 1, 9);
        due.is("s's are even", 1, x.whole(4, 5, 6));
        x.work(4, 0, 0, 2, 4);
        x.work(5, 0, 0, 2, 5);
        due.is("g's do", 0, x.whole(4, 5, 6));
        x.work(6, 0, 0, 2, 9);
        due.is("both, added", 1, x.whole(4, 5, 6));
        x.work(4, 15, 0, 0, 1);
        due.is("its own t's of a led TALK do not count", 1, x.whole(4, 5, 6));
        x.work(4, 14, 0, 0, 1);
        due.is("of another TALK they do", 0, x.whole(4, 5, 6));
    }
}
