/** Promises 17 and 18: copy, fall. */
public final class FallsTest {
    private static final Due due = new Due("FallsTest");

    public static void main(String[] args) {
        copies();
        fallToACopy();
        fallWithoutACopy();
        theLatestCopy();
        itsOwnAlone();
        whatStays();
        due.end();
    }

    private static void copies() {
        WayBoxes x = Due.boxes("*:p", "*:p");
        due.is("no box 2", -1, x.copy(2));
        due.is("no box -1", -1, x.copy(-1));
        due.is("first", 0, x.copy(0));
        due.is("second", 1, x.copy(0));
        due.is("third", 2, x.copy(0));
        due.is("another one's first", 0, x.copy(1));
    }

    private static void fallToACopy() {
        WayBoxes x = Due.boxes("0:t0=n,s0=n,g0=n;1:t3=n");
        for (int talk = 0; talk < 16; talk++) x.work(0, talk, talk % 4, 0, talk + 10);
        x.copy(0);
        x.work(0, 0, 3, 0, 99);
        x.work(0, 5, 2, 1, 1);
        x.work(0, 9, 1, 0, 19);
        due.is("TAKEN UP", 65535 & ~1 & ~32, x.fall(0));
        due.is("t0 of 0", 10, x.cell(0, 0, 0, 0));
        due.is("t3 of 5", 0, x.cell(0, 0, 3, 5));
        due.is("t0 of 15", 25, x.cell(0, 0, 0, 15));
        due.is("s0 of 3", 25, x.cell(0, 1, 0, 3));
        due.is("s0 of 1", 23, x.cell(0, 1, 0, 1));
        due.is("g0", 25, x.cell(0, 2, 0, 0));
        due.is("falls again: all as they were", 65535, x.fall(0));
        due.is("t0 of 0", 10, x.cell(0, 0, 0, 0));
        due.is("no box 1", -1, x.fall(1));
        due.is("no box -1", -1, x.fall(-1));
    }

    private static void fallWithoutACopy() {
        WayBoxes x = Due.boxes("0:t2=n,s0=n,g0=n");
        due.is("empty: all as they were", 65535, x.fall(0));
        x.work(0, 15, 2, 0, 7);
        x.work(0, 1, 2, 0, 0);
        due.is("TAKEN UP", 32767, x.fall(0));
        due.is("t2", 0, x.cell(0, 0, 2, 15));
        due.is("s0", 0, x.cell(0, 1, 0, 2));
        due.is("g0", 0, x.cell(0, 2, 0, 0));
        due.is("a fall is no COPY", 0, x.copy(0));
    }

    private static void theLatestCopy() {
        WayBoxes x = Due.boxes("0:g0=n");
        x.work(0, 0, 0, 0, 1);
        x.copy(0);
        x.work(0, 0, 0, 0, 2);
        x.copy(0);
        x.work(0, 0, 0, 0, 3);
        x.fall(0);
        due.is("the second COPY", 2, x.cell(0, 2, 0, 0));
        x.work(0, 0, 0, 0, 4);
        x.fall(0);
        due.is("the second COPY still", 2, x.cell(0, 2, 0, 0));
        due.is("COPIES stay", 2, x.copy(0));
    }

    private static void itsOwnAlone() {
        WayBoxes x = Due.boxes("0:t0=n", "*:p");
        x.box(0, 0);
        x.row(0);
        x.lead(0, 2, 2);
        x.send(1, 0, 0, 7);
        x.copy(0);
        x.send(1, 0, 0, 8);
        due.is("t's that it leads away are not its own", 65535, x.fall(0));
        due.is("they stay there", 8, x.cell(2, 0, 0, 1));
        due.is("it leads still", 2, x.led(0, 1));
        due.is("and falls of its own", 65533, x.fall(2));
        due.is("it is empty", 0, x.cell(2, 0, 0, 1));
    }

    private static void whatStays() {
        WayBoxes x = Due.boxes("1:p;0:t0=n");
        x.row(0);
        x.copy(0);
        x.work(0, 0, 0, 0, 7);
        x.fall(0);
        due.is("latest", 1, x.latest(0));
        due.is("THE ROW", 1, x.count(2));
    }
}
