/** Counts the answers of one test that are not as due, and tells them. */
final class Due {
    private final String test;
    private int seen;
    private int wrong;

    Due(String test) {
        this.test = test;
    }

    /** An answer against the one that is due. */
    void is(String call, long want, long got) {
        seen++;
        if (want == got) return;
        wrong++;
        if (wrong <= 20) {
            System.out.println(test + ": " + call + " answered " + got + ", due is " + want);
        }
    }

    void isTrue(String what, boolean so) {
        is(what, 1, so ? 1 : 0);
    }

    /** Ends the test: with exit code 1 if an answer was wrong, or if there was none at all. */
    void end() {
        System.out.println(test + ": " + seen + " answers, " + wrong + " not as due");
        if (wrong != 0 || seen == 0) System.exit(1);
    }

    /** Feeds a TEXT's bytes, 8 at most a call. */
    static void feed(WayBoxes x, String bytes) {
        for (int from = 0; from < bytes.length(); from += 8) {
            String some = bytes.substring(from, Math.min(from + 8, bytes.length()));
            long w = 0;
            for (int i = 0; i < some.length(); i++) w = w << 8 | some.charAt(i) & 255;
            x.feed(w, some.length());
        }
    }

    /** What text() answers for these bytes. */
    static int text(WayBoxes x, String bytes) {
        feed(x, bytes);
        return x.text();
    }

    /** A new object with BOXES of KIND 0, one for each TEXT, in their order. */
    static WayBoxes boxes(String... texts) {
        WayBoxes x = new WayBoxes();
        for (String bytes : texts) x.box(0, text(x, bytes));
        return x;
    }
}
