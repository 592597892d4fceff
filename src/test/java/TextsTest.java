/** Promises 1 to 5: a new object, feed, text, lines, part. */
public final class TextsTest {
    private static final Due due = new Due("TextsTest");

    public static void main(String[] args) {
        aNewObject();
        feed();
        textNumbers();
        faults();
        afterFaults();
        opens();
        lengths();
        lines();
        parts();
        partRefusals();
        due.end();
    }

    private static void aNewObject() {
        WayBoxes x = new WayBoxes();
        for (int what = 0; what <= 7; what++) due.is("new count " + what, 0, x.count(what));
        due.is("new lines", -1, x.lines(0, -1));
        due.is("new box", -1, x.box(0, 0));
        due.is("new cell", -2147483648, x.cell(0, 2, 0, 0));
        due.is("new undo", -3, x.undo());
        due.is("new trace", -1, x.trace(0));
        due.is("new release", 0, x.release());
    }

    private static void feed() {
        WayBoxes x = new WayBoxes();
        due.is("feed 0", -2, x.feed(1, 0));
        due.is("feed 9", -2, x.feed(1, 9));
        due.is("feed -1", -2, x.feed(1, -1));
        // Higher bytes than the told ones do not count, and the highest told one comes first.
        due.is("feed 3", 3, x.feed(0x7A7A302A3A70L & 0xFFFFFFFFFFFFL, 3));
        due.is("*:p", 0, x.text());
        due.is("kept to itself", 0, x.count(6));
        due.is("feed 8", 8, x.feed(0xFFFFFFFFFFFFFFFFL, 8));
        due.is("a byte of 255", -10, x.text());
        for (int i = 1; i <= 19; i++) due.is("feed to " + 8 * i, 8 * i, x.feed(0, 8));
        due.is("feed to 159", 159, x.feed(0, 7));
        due.is("feed over 160", -4, x.feed(0, 2));
        due.is("nothing of it came", 159, x.count(6));
        due.is("BAD ahead of FULL", -2, x.feed(0, 9));
        due.is("feed to 160", 160, x.feed(0, 1));
        due.is("feed behind 160", -4, x.feed(0, 1));
    }

    private static void textNumbers() {
        WayBoxes x = new WayBoxes();
        for (int i = 0; i < 8; i++) {
            due.is("text " + i, i, Due.text(x, "*:p"));
            due.is("TEXTS", i + 1, x.count(0));
        }
        Due.feed(x, "zz");
        due.is("FULL ahead of a FAULT", -4, x.text());
        due.is("THE TAPE stays", 2, x.count(6));
        due.is("TEXTS stay", 8, x.count(0));
        due.is("no TEXT 8", -1, x.lines(8, -1));
        due.is("no TEXT 8", -1, x.box(0, 8));
        due.is("TEXT 7", 1, x.lines(7, -1));
    }

    private static void fault(String bytes, int place) {
        WayBoxes x = new WayBoxes();
        due.is("text of '" + bytes + "'", -10 - place, Due.text(x, bytes));
        due.is("THE TAPE after '" + bytes + "'", 0, x.count(6));
        due.is("TEXTS after '" + bytes + "'", 0, x.count(0));
    }

    private static void good(String bytes) {
        due.is("text of '" + bytes + "'", 0, Due.text(new WayBoxes(), bytes));
    }

    private static void faults() {
        fault("", 0);
        fault("4:p", 0);
        fault(" 0:p", 0);
        fault("0", 1);
        fault("0p", 1);
        fault("00:p", 1);
        fault("0:", 2);
        fault("0:x", 2);
        fault("0:k=1", 2);
        fault("0:pp", 3);
        fault("0:p,", 4);
        fault("0:p;", 4);
        fault("0:p;:p", 4);
        fault("0:t", 3);
        fault("0:t4=1", 3);
        fault("0:t0", 4);
        fault("0:t0+1", 4);
        fault("0:t0=", 5);
        fault("0:t0=-1", 5);
        fault("0:t0=p", 5);
        fault("0:t0=00", 6);
        fault("0:t0=07", 6);
        fault("0:t0=123", 7);
        fault("0:t0=1+", 7);
        fault("0:t0=1*2", 6);
        fault("0:t0=g9", 6);
        fault("0:t0=1<2", 6);
        fault("0()", 2);
        fault("0(k)", 3);
        fault("0(k=", 4);
        fault("0(k=1", 5);
        fault("0(k=):p", 4);
        fault("0(k=&k=1):p", 4);
        fault("0(t=1):p", 3);
        fault("0(k=1=2)", 5);
        fault("0(k+1=2)", 3);
        fault("0(k=1+1)", 5);
        fault("0(k=1):", 7);
        fault("0(k=1)p", 6);
        fault("0(k=1)(k=1):p", 6);
        fault("0(k=1&)", 6);
        fault("0(k=1|)", 6);
        fault("0(|k=1)", 2);
        fault("0(!)", 3);
        fault("0(k!1)", 3);
        fault("0(n=123)", 6);
        fault("0(00=1)", 3);
        fault("0((k=1):p", 7);
        fault("0(k=1)):p", 6);
        fault("0:p\0", 3);
        good("0:p");
        good("*:b,p,d");
        good("3:t0=0");
        good("0:t0=10,s3=99,g2=k");
        good("0(k=1|h=2&n>0|!t0<s1):t3=g0-1+n-k,p;*:d");
    }

    /** What a FAULT's bytes held does not come into the next TEXT. */
    private static void afterFaults() {
        WayBoxes x = new WayBoxes();
        String most = "0:s0=s0+1,g0=1,t0=1+1+1+1;1:s1=s1,g1=1,t0=1+1+1+1;2:s2=s2,g2=1,t0=1+1+1+1";
        for (int i = 0; i < 4; i++) due.is("a FAULT", -11 - most.length(), Due.text(x, most + ";"));
        due.is("a TEXT", 0, Due.text(x, "3:d,p,d"));
        due.is("its lines", 1, x.lines(0, -1));
        due.is("its acts", 3, x.lines(0, 0));
        for (int cell = 0; cell < 8; cell++) {
            due.is("part " + cell, 0, x.part(0, cell / 4, cell % 4, 0));
            due.is("part " + cell, -5, x.part(0, cell / 4, cell % 4, 1));
        }
        for (int i = 0; i < 4; i++) due.is("a FAULT", -11 - most.length(), Due.text(x, most + ";"));
        due.is("the same without one", 1, Due.text(x, most));
        x.box(0, 1);
        x.work(0, 0, 0, 2, 0);
        due.is("its last SUM", 4, x.cell(0, 0, 0, 0));
        x.box(0, 0);
        due.is("the first TEXT's", 0, x.work(1, 0, 0, 3, 0));
    }

    /** At most 5 of ! and ( are open. */
    private static void opens() {
        good("0(((((k=1))))):p");
        fault("0((((((k=1)))))):p", 6);
        good("0(!!!!k=1):p");
        fault("0(!!!!!k=1):p", 6);
        good("0(!(!(k=1))):p");
        good("0(!(!(k=1))&!(!(k=2))|!!!!n=3):p");
        fault("0(!(!(!k=1))):p", 6);
        fault("0(!(!((k=1)))):p", 6);
        // A ! is no longer open when its F has ended, with a test or with a ).
        good("0(!k=1&!k=1&!k=1&!k=1&!k=1&!k=1):p");
        good("0(!(k=1)|((((k=2))))):p");
        fault("0(k=1|((((!k=2))))):p", 10);
    }

    /** 8 LINES, 5 ACTS, 4 TERMS at most, and the FAULT where one more begins. */
    private static void lengths() {
        good("0:p;0:p;0:p;0:p;0:p;0:p;0:p;0:p");
        fault("0:p;0:p;0:p;0:p;0:p;0:p;0:p;0:p;0:p", 31);
        good("0:p,p,p,p,p");
        fault("0:p,p,p,p,p,p", 11);
        good("0:t0=1+2-3+4");
        fault("0:t0=1+2-3+4-5", 12);
        good("0:t0=10+20-30+40,p");
        StringBuilder most = new StringBuilder("0(k=1");
        while (most.length() < 156) most.append("&k=1");
        WayBoxes x = new WayBoxes();
        due.is("157 bytes", -10 - 157, Due.text(x, most.toString()));
        due.is("160 bytes", 0, Due.text(x, most.append("):p").toString()));
        due.is("160 bytes", 160, most.length());
    }

    private static void lines() {
        WayBoxes x = new WayBoxes();
        Due.text(x, "0:p,d,b;1:t0=1,t1=2;*(k=1):s0=1,s1=1,s2=1,s3=1,p");
        Due.text(x, "*:d");
        due.is("lines", 3, x.lines(0, -1));
        due.is("acts 0", 3, x.lines(0, 0));
        due.is("acts 1", 2, x.lines(0, 1));
        due.is("acts 2", 5, x.lines(0, 2));
        due.is("no line 3", -1, x.lines(0, 3));
        due.is("no line -2", -1, x.lines(0, -2));
        due.is("no text 2", -1, x.lines(2, -1));
        due.is("no text -1", -1, x.lines(-1, -1));
        due.is("lines of 1", 1, x.lines(1, -1));
        due.is("acts of 1", 1, x.lines(1, 0));
        due.is("no line 1 of 1", -1, x.lines(1, 1));
    }

    /** What one CELL is in a TEXT, and the LINE that is told of it. */
    private static void part(String bytes, int letter, int digit, int want, int line) {
        WayBoxes x = new WayBoxes();
        Due.text(x, bytes);
        due.is("part of '" + bytes + "'", want, x.part(0, letter, digit, 0));
        due.is("line in '" + bytes + "'", line, x.part(0, letter, digit, 1));
    }

    private static void parts() {
        part("0:p", 0, 0, 0, -5);
        part("0:t0=1", 0, 0, 0, -5);
        part("0:s0=1", 1, 0, 0, -5);
        part("0:s0=s0", 0, 0, 1, -5);
        part("0:s0=s0+1", 0, 0, 1, -5);
        part("0:g3=g3-n+h-2", 1, 3, 1, -5);
        part("0:s0=s0+t0;1:s0=s0-g1", 0, 0, 1, -5);
        part("0:s0=s0+t0;1:s0=s0-g1", 1, 1, 2, 1);
        part("0:s0=1", 0, 0, 2, 0);
        part("0:s0=n+s0", 0, 0, 2, 0);
        part("0:s0=s0+s0", 0, 0, 2, 0);
        part("0:s0=s0+1-s0", 0, 0, 2, 0);
        part("0:s0=s1+1", 0, 0, 2, 0);
        part("0:s0=s1+1", 0, 1, 2, 0);
        part("0:s0=s0+s1,s1=s1+s0", 0, 0, 2, 0);
        part("0:t0=s2", 0, 2, 2, 0);
        part("0:g0=g0+1;1:p,t0=1+g0", 1, 0, 2, 1);
        part("0:g0=g0+1;1(g0=1):p", 1, 0, 2, 1);
        part("0:g0=g0+1;1(1>g0):p;2:g0=1", 1, 0, 2, 1);
        part("0:p;1:p;*(!(k=1|s3<2)):d", 0, 3, 2, 2);
        part("0:s1=s1+1", 1, 1, 0, -5);
        part("0:g0=s0", 0, 0, 2, 0);
        part("0:g0=s0", 1, 0, 2, 0);
    }

    private static void partRefusals() {
        WayBoxes x = new WayBoxes();
        Due.text(x, "0:s0=1,g3=g3");
        due.is("text 1", -1, x.part(1, 0, 0, 0));
        due.is("text -1", -1, x.part(-1, 0, 0, 0));
        due.is("letter 2", -1, x.part(0, 2, 0, 0));
        due.is("letter -1", -1, x.part(0, -1, 0, 0));
        due.is("digit 4", -1, x.part(0, 0, 4, 0));
        due.is("digit -1", -1, x.part(0, 0, -1, 0));
        due.is("what 2", -1, x.part(0, 0, 0, 2));
        due.is("what -1", -1, x.part(0, 0, 0, -1));
        due.is("g3", 1, x.part(0, 1, 3, 0));
    }
}
