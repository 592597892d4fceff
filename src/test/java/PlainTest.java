import java.util.Random;

/**
 * All promises: long rows of calls, made up from a fixed seed, each answered by the class and by
 * PlainBoxes, the document said a second time. Numbers are mostly ones that there are, at times
 * any; no call may throw.
 */
public final class PlainTest {
    private static final Due due = new Due("PlainTest");
    private static final int FEED = 0, TEXT = 1, COUNT = 24, IMAGE = 25, UNDO = 26;
    /** How often each call comes, in the face's order (as PlainBoxes numbers them). */
    private static final int[] OFTEN = {
        3, 2, 4, 12, 6, 60, 60, 12, 8, 70, 14, 10, 5, 4, 20, 6, 6, 5, 16, 10, 6, 10, 8, 6, 8, 1, 1
    };
    private static final int[] TOLD = {
        2, 0, 2, 4, 2, 5, 4, 1, 1, 4, 3, 2, 1, 0, 3, 1, 1, 4, 5, 4, 5, 3, 1, 2, 1, 0, 0
    };
    /** What each number is: text, box, (t)alk, house, kind, n, digit, any other up to a small bound. */
    private static final String[] WHAT = {
        "", "", "xl", "x1d1", "Kx", "bthkn", "b2do", "b", "r", "thkn", "bbT", "bt", "H", "", "bbb", "b",
        "b", "thkn", "xf2Di", "xxDi", "Bf2Di", "bai", "i", "bK", "w", "", ""
    };

    private final Random random;
    private final WayBoxes real = new WayBoxes();
    private final PlainBoxes plain = new PlainBoxes();
    private final int run;
    private final boolean wild;
    private int calls;

    private PlainTest(int run) {
        this.run = run;
        random = new Random(run);
        wild = run % 10 == 9;
    }

    public static void main(String[] args) {
        int runs = args.length > 0 ? Integer.parseInt(args[0]) : 150;
        faults(runs * 40);
        for (int run = 0; run < runs; run++) new PlainTest(run).go();
        due.end();
    }

    /** FAULTS of texts with a sign or two amiss. */
    private static void faults(int many) {
        Random random = new Random(7);
        for (int i = 0; i < many; i++) {
            String bytes = MadeText.amiss(random, MadeText.any(random));
            WayBoxes x = new WayBoxes();
            int fault = PlainGrammar.fault(bytes);
            due.is("text of '" + bytes + "'", fault < 0 ? 0 : -10 - fault, Due.text(x, bytes));
        }
    }

    private void go() {
        int texts = 1 + random.nextInt(3);
        for (int i = 0; i < texts; i++) feedText(MadeText.any(random));
        for (int i = 0; i < 3; i++) both(4, random.nextInt(7), random.nextInt(texts));
        while (calls < 512) {
            int call = pick();
            if (call == FEED) feedText(madeText());
            else if (call == 13 && random.nextInt(2) == 0) manyHeld();
            else both(told(call));
        }
    }

    private String madeText() {
        String bytes = MadeText.any(random);
        return random.nextInt(3) == 0 ? MadeText.amiss(random, bytes) : bytes;
    }

    private int pick() {
        int sum = 0;
        for (int often : OFTEN) sum += often;
        int at = random.nextInt(sum);
        int call = 0;
        while (at >= OFTEN[call]) at -= OFTEN[call++];
        return call;
    }

    private void manyHeld() {
        both(12, 1 << random.nextInt(16) | 3);
        for (int i = 0; i < 22; i++) both(9, random.nextInt(3), random.nextInt(4), random.nextInt(4), i);
    }

    private void feedText(String bytes) {
        for (int from = 0; from < bytes.length(); from += 8) {
            String some = bytes.substring(from, Math.min(from + 8, bytes.length()));
            long w = random.nextLong();
            for (int i = 0; i < some.length(); i++) w = w << 8 | some.charAt(i) & 255;
            both(FEED, w, some.length());
        }
        if (random.nextInt(20) > 0) both(TEXT);
    }

    private long[] told(int call) {
        long[] told = new long[TOLD[call] + 1];
        told[0] = call;
        for (int i = 1; i < told.length; i++) told[i] = number(WHAT[call].charAt(i - 1));
        return told;
    }

    private long number(char what) {
        if (random.nextInt(wild ? 3 : 60) == 0) return anyNumber();
        switch (what) {
            case 'x': return random.nextInt(3);
            case 'b': return random.nextInt(5);
            case 'B': return random.nextInt(32);
            case 'r': return random.nextInt(5) - (random.nextInt(8) == 0 ? 1 : 0);
            case 't': return random.nextInt(4) == 0 ? random.nextInt(16) : random.nextInt(3);
            case 'T': return random.nextInt(2) == 0 ? random.nextInt(65536) : random.nextInt(8);
            case 'H': return 1 << random.nextInt(16) & 7 | random.nextInt(2);
            case 'h': case 'k': case 'd': return random.nextInt(4);
            case 'n': return random.nextInt(3) == 0 ? random.nextInt(100) : random.nextInt(6);
            case 'l': return random.nextInt(9) - 1;
            case '1': return random.nextInt(2);
            case '2': return random.nextInt(3);
            case 'o': return random.nextInt(4);
            case 'f': return random.nextInt(5);
            case 'D': return 1 + random.nextInt(3);
            case 'i': return random.nextInt(6) - 2;
            case 'K': return random.nextInt(7);
            case 'a': return random.nextInt(3);
            case 'w': return random.nextInt(8);
            default: throw new IllegalStateException();
        }
    }

    private long anyNumber() {
        int[] edges = {-2147483648, -3, -2, -1, 4, 5, 7, 8, 16, 19, 20, 99, 100, 65535, 65536, 2147483647};
        return random.nextInt(3) == 0 ? random.nextInt() : edges[random.nextInt(edges.length)];
    }

    private void both(long... told) {
        calls++;
        StringBuilder call = new StringBuilder("run " + run + ", call " + calls + ": " + told[0] + " of");
        for (int i = 1; i < told.length; i++) call.append(' ').append(told[i]);
        due.is(call.toString(), plain.call(told), answer(told));
        if (told[0] == UNDO) {
            for (int what = 0; what < 8; what++) {
                due.is(call + ", count " + what, plain.call(COUNT, what), real.count(what));
            }
        }
    }

    private long answer(long[] told) {
        int[] a = new int[6];
        for (int i = 1; i < told.length; i++) a[i] = (int) told[i];
        switch ((int) told[0]) {
            case FEED: return real.feed(told[1], a[2]);
            case TEXT: return real.text();
            case 2: return real.lines(a[1], a[2]);
            case 3: return real.part(a[1], a[2], a[3], a[4]);
            case 4: return real.box(a[1], a[2]);
            case 5: return real.work(a[1], a[2], a[3], a[4], a[5]);
            case 6: return real.cell(a[1], a[2], a[3], a[4]);
            case 7: return real.latest(a[1]);
            case 8: return real.row(a[1]);
            case 9: return real.send(a[1], a[2], a[3], a[4]);
            case 10: return real.lead(a[1], a[2], a[3]);
            case 11: return real.led(a[1], a[2]);
            case 12: return real.hold(a[1]);
            case 13: return real.release();
            case 14: return real.whole(a[1], a[2], a[3]);
            case 15: return real.copy(a[1]);
            case 16: return real.fall(a[1]);
            case 17: return real.letter(a[1], a[2], a[3], a[4]);
            case 18: return real.shown(a[1], a[2], a[3], a[4], a[5]);
            case 19: return real.ways(a[1], a[2], a[3], a[4]);
            case 20: return real.orders(a[1], a[2], a[3], a[4], a[5]);
            case 21: return real.act(a[1], a[2], a[3]);
            case 22: return real.trace(a[1]);
            case 23: return real.as(a[1], a[2]);
            case COUNT: return real.count(a[1]);
            case IMAGE: return real.image();
            case UNDO: return real.undo();
            default: throw new IllegalStateException();
        }
    }
}
