/**
 * Promises 1 to 5 and ==== 1: each sentence that names how little or how much a TEXT may have, byte
 * by byte.
 */
public final class TextEdgesTest {
    private static final Due due = new Due("TextEdgesTest");
    private static final String TERM = "0123456789khntsg";
    private static final String DIGIT = "0123456789";

    public static void main(String[] args) {
        nothingIsThere();
        feedEachNumberOfBytes();
        feedToTheLastByte();
        eachByteOfAHead();
        eachByteOfAnE();
        eachByteBehindAnE();
        eachByteOfAnAct();
        eachByteBehindTheMost();
        endsTooEarly();
        faultAtTheOutermostPlaces();
        numbers();
        opensOfEachLine();
        mostOfAll();
        aFaultTakesTheTapeAlone();
        eightTexts();
        linesOfTheMost();
        partsOfEachCell();
        firstLineOfAOne();
        itselfAsTheFirstTerm();
        due.end();
    }

    /** Promise 1: no TEXTS, no BOXES, nothing else. */
    private static void nothingIsThere() {
        WayBoxes x = new WayBoxes();
        for (int number = 0; number < 8; number++) {
            due.is("count " + number, 0, x.count(number));
            due.is("lines of TEXT " + number, -1, x.lines(number, -1));
            due.is("part of TEXT " + number, -1, x.part(number, 0, 0, 0));
            due.is("latest of BOX " + number, -1, x.latest(number));
            due.is("a BOX of TEXT " + number, -1, x.box(0, number));
            due.is("row of BOX " + number, -1, x.row(number));
            due.is("work of BOX " + number, -1, x.work(number, 0, 0, 0, 0));
        }
        due.is("send", -3, x.send(0, 0, 0, 0));
        due.is("release", 0, x.release());
        due.is("row", 0, x.row(-1));
        due.is("act", 0, x.act(0, 0, 0));
        due.is("trace", -1, x.trace(0));
        due.is("undo", -3, x.undo());
        due.is("text", -10, x.text());
        due.is("image", 0, x.image());
        due.is("undo", 0, x.undo());
        due.is("another object's TEXT", 0, Due.text(new WayBoxes(), "*:p"));
        due.is("is not this one's", 0, x.count(0));
    }

    /** Promise 2: n 1 to 8, the n lowest bytes, the highest first; whatever stands above them. */
    private static void feedEachNumberOfBytes() {
        String bytes = "*:t0=9+n-4,s1=99-k+h,d;1(!k=1):p";
        for (long above : new long[] {0, -1L, Long.MIN_VALUE, Long.MAX_VALUE}) {
            for (int n = 1; n <= 8; n++) {
                WayBoxes x = new WayBoxes();
                int at = 0;
                while (at < bytes.length()) {
                    int many = Math.min(n, bytes.length() - at);
                    long w = many == 8 ? 0 : above << 8 * many;
                    for (int i = 0; i < many; i++) w |= (long) bytes.charAt(at + i) << 8 * (many - 1 - i);
                    at += many;
                    due.is("feed by " + n, at, x.feed(w, many));
                    due.is("THE TAPE by " + n, at, x.count(6));
                }
                due.is("text fed by " + n, 0, x.text());
                due.is("lines fed by " + n, 2, x.lines(0, -1));
                due.is("acts fed by " + n, 3, x.lines(0, 0));
                x.box(0, 0);
                due.is("work fed by " + n, 0, x.work(0, 0, 2, 0, 7));
                due.is("t0 fed by " + n, 12, x.cell(0, 0, 0, 0));
                due.is("s1 fed by " + n, 101, x.cell(0, 1, 1, 2));
            }
        }
        WayBoxes x = new WayBoxes();
        due.is("eight bytes of 255", 8, x.feed(-1L, 8));
        due.is("eight bytes, 128 first", 16, x.feed(Long.MIN_VALUE, 8));
        due.is("eight bytes, 127 first", 24, x.feed(Long.MAX_VALUE, 8));
    }

    /** Promise 2: 160 bytes at most: n of them fit if there are no more than 160 then. */
    private static void feedToTheLastByte() {
        for (int n = 1; n <= 8; n++) {
            WayBoxes x = new WayBoxes();
            int had = 160 - n;
            for (int i = 0; i < had; i++) x.feed('0', 1);
            due.is("160 less " + n, had, x.count(6));
            if (n < 8) due.is("one too many", -4, x.feed(0, n + 1));
            due.is("nothing came", had, x.count(6));
            due.is("just as many", 160, x.feed(0, n));
            due.is("and one", -4, x.feed(0, 1));
            due.is("FAULT of it all", -11, x.text());
            due.is("there is room again", 8, x.feed(0, 8));
        }
    }

    /** With which bytes a TEXT can go on behind these; all others are the FAULT. */
    private static void goesOn(String bytes, String with) {
        for (int next = 0; next < 256; next++) {
            int answer = Due.text(new WayBoxes(), bytes + (char) next);
            String call = "text of '" + bytes + "' and byte " + next;
            // A TEXT, or one that ends too early behind this byte.
            if (with.indexOf(next) < 0) due.is(call, -10 - bytes.length(), answer);
            else due.isTrue(call, answer == 0 || answer == -11 - bytes.length());
        }
    }

    private static void eachByteOfAHead() {
        goesOn("", "0123*");
        goesOn("0", ":(");
        goesOn("3", ":(");
        goesOn("*", ":(");
        goesOn("0(", "!(" + TERM);
        goesOn("0(k=1)", ":");
        goesOn("0:", "tsgpdb");
        goesOn("0:p;", "0123*");
        goesOn("0:p;*", ":(");
    }

    private static void eachByteOfAnE() {
        goesOn("0(!", "!(" + TERM);
        goesOn("0((", "!(" + TERM);
        goesOn("0(0", "<=>");
        goesOn("0(1", "<=>" + DIGIT);
        goesOn("0(9", "<=>" + DIGIT);
        goesOn("0(99", "<=>");
        goesOn("0(k", "<=>");
        goesOn("0(h", "<=>");
        goesOn("0(n", "<=>");
        goesOn("0(t", "0123");
        goesOn("0(s", "0123");
        goesOn("0(g", "0123");
        goesOn("0(t3", "<=>");
        goesOn("0(k<", TERM);
        goesOn("0(k=", TERM);
        goesOn("0(k>", TERM);
        goesOn("0(k=t", "0123");
        goesOn("0(k=1&", "!(" + TERM);
        goesOn("0(k=1|", "!(" + TERM);
        goesOn("0(k=1&!", "!(" + TERM);
    }

    private static void eachByteBehindAnE() {
        goesOn("0(k=k", "&|)");
        goesOn("0(k=0", "&|)");
        goesOn("0(k=7", "&|)" + DIGIT);
        goesOn("0(k=77", "&|)");
        goesOn("0(k=g3", "&|)");
        goesOn("0(!k=k", "&|)");
        goesOn("0((k=k", "&|)");
        goesOn("0((k=k)", "&|)");
        goesOn("0(!(k=k)", "&|)");
        goesOn("0(!!(!k=k&k=k)", "&|)");
        // The ( behind a KIND and four more: no ! and no ( any more, till one of them ends.
        goesOn("0(((((", TERM);
        goesOn("0(!!!!", TERM);
        goesOn("0(!(!(", TERM);
        goesOn("0(((((k=k&", TERM);
        goesOn("0(((((k=k)&", "!(" + TERM);
        goesOn("0(((!(k=k)&", "!(" + TERM);
        goesOn("0((((!k=k|", "!(" + TERM);
        goesOn("0(!!!!k=k|", "!(" + TERM);
    }

    private static void eachByteOfAnAct() {
        goesOn("0:p", ",;");
        goesOn("0:d", ",;");
        goesOn("0:b", ",;");
        goesOn("0:p,", "tsgpdb");
        goesOn("0:t", "0123");
        goesOn("0:s", "0123");
        goesOn("0:g", "0123");
        goesOn("0:t0", "=");
        goesOn("0:s3=", TERM);
        goesOn("0:t0=0", "+-,;");
        goesOn("0:t0=1", "+-,;" + DIGIT);
        goesOn("0:t0=12", "+-,;");
        goesOn("0:t0=k", "+-,;");
        goesOn("0:t0=t", "0123");
        goesOn("0:t0=g3", "+-,;");
        goesOn("0:t0=k+", TERM);
        goesOn("0:t0=k-", TERM);
        goesOn("0:t0=k+0", "+-,;");
        goesOn("0:t0=k+k-g0", "+-,;");
    }

    /** Behind 4 TERMS, 5 ACTS, 8 LINES no more of them. */
    private static void eachByteBehindTheMost() {
        goesOn("0:t0=k+k-k", "+-,;");
        goesOn("0:t0=k+k-k+k", ",;");
        goesOn("0:t0=k+k-k+0", ",;");
        goesOn("0:t0=k+k-k+1", ",;" + DIGIT);
        goesOn("0:t0=k+k-k+11", ",;");
        goesOn("0:p,p,p,p", ",;");
        goesOn("0:p,p,p,p,p", ";");
        goesOn("0:t0=1,s0=k,g0=1,t0=1,d", ";");
        goesOn("0:p,p,p,p,s1=k", "+-;");
        goesOn("0:p,p,p,p,s1=k+k+k+k", ";");
        goesOn("0:p;1:p;2:p;3:p;*:p;0:p;1:p", ",;");
        goesOn("0:p;1:p;2:p;3:p;*:p;0:p;1:p;2:p", ",");
        goesOn("0:p;1:p;2:p;3:p;*:p;0:p;1:p;2:p,p,p,p,p", "");
        goesOn("0:p;1:p;2:p;3:p;*:p;0:p;1:p;2:g0=k", "+-,");
        goesOn("0:p;1:p;2:p;3:p;*:p;0:p;1:p;2:d,d,d,d,g0=1+1+1+k", "");
    }

    /** All beginnings of a TEXT: so many are TEXTS, the FAULT of the others is their size. */
    private static void early(String bytes, int texts) {
        int many = 0;
        for (int size = 0; size < bytes.length(); size++) {
            int answer = Due.text(new WayBoxes(), bytes.substring(0, size));
            if (answer == 0) many++;
            else due.is("text of '" + bytes.substring(0, size) + "'", -10 - size, answer);
        }
        due.is("TEXTS in '" + bytes + "'", texts, many);
        due.is("text of '" + bytes + "'", 0, Due.text(new WayBoxes(), bytes));
    }

    private static void endsTooEarly() {
        early("0:p", 0);
        early("0:p,d", 1);
        early("0:t0=10", 1);
        early("0:t0=1+2-n,s1=20;*:b", 5);
        early("0(k=1|h=22&n>0|!t0<s1):t3=g0-1+n-k,p;*:d", 5);
        early("0(((((k=1))))):p", 0);
        early("3(!!!!h<g3):s0=s0;2(n>99):b", 1);
    }

    private static void faultAtTheOutermostPlaces() {
        due.is("no byte", -10, new WayBoxes().text());
        StringBuilder e = new StringBuilder("0(k=1");
        while (e.length() < 157) e.append("&k=1");
        due.is("157 bytes", 157, e.length());
        due.is("160 bytes, too few", -170, Due.text(new WayBoxes(), e + "&k="));
        due.is("160 bytes, the last one", -169, Due.text(new WayBoxes(), e + "):;"));
        due.is("160 bytes, the last but one", -168, Due.text(new WayBoxes(), e + ")p:"));
        due.is("160 bytes, a TEXT", 0, Due.text(new WayBoxes(), e + "):p"));
    }

    private static void number(String number, int want) {
        WayBoxes x = Due.boxes("0:g0=" + number + ";1(g0=" + number + "):d");
        x.work(0, 0, 0, 0, 0);
        due.is("g0 of " + number, want, x.cell(0, 2, 0, 0));
        due.is("a test of " + number, 0, x.work(0, 0, 0, 1, 0));
    }

    /** A number: 1 or 2 digits, no 0 ahead of another. */
    private static void numbers() {
        for (int number = 0; number <= 99; number++) number(Integer.toString(number), number);
        for (int number = 0; number <= 9; number++) {
            due.is("0" + number, -16, Due.text(new WayBoxes(), "0:g0=0" + number));
            due.is("in a test, 0" + number, -13, Due.text(new WayBoxes(), "0(0" + number + "=1):p"));
            due.is("10" + number, -17, Due.text(new WayBoxes(), "0:g0=10" + number));
            due.is("in a test, 99" + number, -16, Due.text(new WayBoxes(), "0(k=99" + number + "):p"));
        }
    }

    /** How many are open is counted anew in each LINE. */
    private static void opensOfEachLine() {
        due.is("five in each", 0, Due.text(new WayBoxes(), "0(((((k=1))))):p;1(!!!!k=1):p;2(((((k=1))))):p"));
        due.is("six in the second", -33, Due.text(new WayBoxes(), "0(((((k=1))))):p;1((((((k=1)))))):p"));
    }

    /** 8 LINES of 5 ACTS in one TEXT. */
    private static void mostOfAll() {
        StringBuilder bytes = new StringBuilder("*:p,p,p,p,d");
        for (int line = 1; line < 8; line++) bytes.append(";*:p,p,p,p,d");
        WayBoxes x = new WayBoxes();
        due.is("40 ACTS", 0, Due.text(x, bytes.toString()));
        due.is("LINES", 8, x.lines(0, -1));
        for (int line = 0; line < 8; line++) due.is("ACTS of " + line, 5, x.lines(0, line));
        due.is("one LINE more", -10 - 95, Due.text(x, bytes + ";*:p"));
        due.is("one ACT more", -10 - 95, Due.text(x, bytes + ",p"));
    }

    /** By a FAULT THE TAPE is empty, and nothing else is otherwise. */
    private static void aFaultTakesTheTapeAlone() {
        String before = Seen.all(() -> {
            WayBoxes x = Made.some();
            x.text();
            return x;
        });
        String behind = Seen.all(() -> {
            WayBoxes x = Made.some();
            x.text();
            due.is("a FAULT", -27, Due.text(x, "0:s0=s0+1,g1=1;1:q"));
            return x;
        });
        due.isTrue("all else stays", before.equals(behind));
    }

    /** 8 TEXTS at most, numbered from 0 on; FULL stays FULL, and THE TAPE stays. */
    private static void eightTexts() {
        WayBoxes x = new WayBoxes();
        for (int text = 0; text < 8; text++) {
            due.is("a FAULT takes no number", -10, x.text());
            StringBuilder lines = new StringBuilder("*:p");
            for (int line = 0; line < text; line++) lines.append(";*:p");
            due.is("text " + text, text, Due.text(x, lines.toString()));
        }
        for (int text = 0; text < 8; text++) due.is("lines of " + text, text + 1, x.lines(text, -1));
        due.is("a ninth, of no bytes", -4, x.text());
        due.is("a ninth", -4, Due.text(x, "*:p"));
        due.is("once more", -4, x.text());
        due.is("THE TAPE stays", 3, x.count(6));
        due.is("THE TAPE goes on", 4, x.feed(';', 1));
        due.is("TEXTS", 8, x.count(0));
    }

    private static void linesOfTheMost() {
        WayBoxes x = new WayBoxes();
        Due.text(x, "0:p;0:p,p;0:p,p,p;0:p,p,p,p;0:p,p,p,p,p;0:p,p,p,p;0:p,p;0:p");
        int[] acts = {1, 2, 3, 4, 5, 4, 2, 1};
        due.is("lines", 8, x.lines(0, -1));
        for (int line = 0; line < 8; line++) due.is("acts of " + line, acts[line], x.lines(0, line));
        due.is("no line 8", -1, x.lines(0, 8));
        due.is("no line -2", -1, x.lines(0, -2));
    }

    /** Each s and each g is told of its own. */
    private static void partsOfEachCell() {
        for (int letter = 0; letter < 2; letter++) {
            for (int digit = 0; digit < 4; digit++) {
                String cell = (letter == 0 ? "s" : "g") + digit;
                WayBoxes x = new WayBoxes();
                Due.text(x, "0:" + cell + "=" + cell + "+1");
                Due.text(x, "0:p;1:t0=" + cell);
                for (int other = 0; other < 8; other++) {
                    boolean itself = other == letter * 4 + digit;
                    due.is(cell + ", SUM", itself ? 1 : 0, x.part(0, other / 4, other % 4, 0));
                    due.is(cell + ", its LINE", -5, x.part(0, other / 4, other % 4, 1));
                    due.is(cell + ", ONE", itself ? 2 : 0, x.part(1, other / 4, other % 4, 0));
                    due.is(cell + ", its LINE", itself ? 1 : -5, x.part(1, other / 4, other % 4, 1));
                }
            }
        }
    }

    private static void part(String bytes, int want, int line) {
        WayBoxes x = new WayBoxes();
        Due.text(x, bytes);
        due.is("s0 of '" + bytes + "'", want, x.part(0, 0, 0, 0));
        due.is("the LINE of s0 in '" + bytes + "'", line, x.part(0, 0, 0, 1));
    }

    /** ONE is told with the first LINE where it stands otherwise, 0 to 7. */
    private static void firstLineOfAOne() {
        part("0:s0=1;1:s0=2;2:s0=3", 2, 0);
        part("0:s0=s0;1:s0=2;2:s0=3", 2, 1);
        part("0:p;0:p;0:p;0:p;0:p;0:p;0:p;0:s0=1", 2, 7);
        part("0:s0=s0;0:s0=s0+1;0:p;0:p;0:p;0:p;0:p;0:t1=s0", 2, 7);
        part("0:s0=s0;0:p;0:p;0:p;0:p;0:p;0:p;0(s0=0):p", 2, 7);
        part("0:s0=s0+1;1(k=s0):s0=s0+1", 2, 1);
        part("0:p,p,p,p,s0=s0;1:p,p,p,p,s0=0", 2, 1);
        part("0(!((!s0>0))):p;1:s0=1", 2, 0);
    }

    /** SUM: itself as the first TERM alone, and perhaps more TERMS. */
    private static void itselfAsTheFirstTerm() {
        part("0:s1=s1+1", 0, -5);
        part("0:t0=t0", 0, -5);
        part("0:g0=g0", 0, -5);
        part("0:s0=s0", 1, -5);
        part("0:s0=s0+1-2+n", 1, -5);
        part("0:s0=s0+s1-t0+g0", 1, -5);
        part("0:s0=s0+s0", 2, 0);
        part("0:s0=s0+1-s0", 2, 0);
        part("0:s0=s0+1-2-s0", 2, 0);
        part("0:s0=0+s0", 2, 0);
        part("0:s0=s1", 2, 0);
        part("0:s0=t0+s0", 2, 0);
        part("0:s1=s0", 2, 0);
        part("0:s1=s1+s0", 2, 0);
        part("0:s0=s0,g0=s0", 2, 0);
        part("0:s0=s0,s0=s0-1,p,s0=s0+2", 1, -5);
        part("0:p,s0=1", 2, 0);
    }
}
