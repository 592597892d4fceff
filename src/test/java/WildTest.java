import java.util.function.Supplier;

/**
 * No call throws, whatever it is told: each call with all rows of numbers from the edges of what
 * there is, in an empty object, one with something in each place, and one full to the brim. What
 * each answers is looked at where the answer can only be a refusal.
 */
public final class WildTest {
    private static final int NONE = -1, BAD = -2, STATE = -3, FULL = -4, NO_CELL = Integer.MIN_VALUE;
    private static final Due due = new Due("WildTest");
    private static final int[] EDGES = {
        Integer.MIN_VALUE, -65536, -3, -2, -1, 0, 1, 2, 3, 4, 5, 7, 8, 15, 16, 99, 100, 65535, 65536, Integer.MAX_VALUE
    };
    /** How many numbers each call is told, in the face's order (but count, which is the last). */
    private static final int[] TOLD = {2, 0, 2, 4, 2, 5, 4, 1, 1, 4, 3, 2, 1, 0, 3, 1, 1, 4, 5, 4, 5, 3, 1, 2, 0, 0, 1};
    private static final int TEXT = 1, IMAGE = 24, UNDO = 25;

    private final Supplier<WayBoxes> made;
    private final int[] told = new int[5];
    private WayBoxes x;
    private int calls;

    private WildTest(Supplier<WayBoxes> made) {
        this.made = made;
        x = made.get();
    }

    public static void main(String[] args) {
        for (int call = 0; call < TOLD.length; call++) {
            new WildTest(Made::empty).all(call, 0);
            new WildTest(Made::some).all(call, 0);
            new WildTest(Made::brim).all(call, 0);
        }
        due.end();
    }

    private void all(int call, int at) {
        if (at == TOLD[call]) {
            one(call);
            return;
        }
        for (int edge : EDGES) {
            // Five numbers make many rows: of the first two the small ones and the even ones will do.
            if (TOLD[call] == 5 && at < 2 && (edge & 1) == 1 && edge > 4) continue;
            told[at] = edge;
            all(call, at + 1);
        }
    }

    private void one(int call) {
        // An object is good for 512 calls, some of which made it what it is.
        if (calls++ == 300) {
            x = made.get();
            calls = 1;
        }
        int answer = answer(call);
        boolean wild = false;
        for (int i = 0; i < TOLD[call]; i++) wild |= told[i] < -65535 || told[i] > 65536;
        if (wild && isMeant(call)) due.isTrue("call " + call + " of what is not there", isRefusal(answer));
    }

    /** Calls that refuse the outermost numbers wherever they stand. */
    private static boolean isMeant(int call) {
        return call >= 2 && call <= 18 && call != 6 && call != TEXT;
    }

    private static boolean isRefusal(int answer) {
        return answer == NONE || answer == BAD || answer == STATE || answer == FULL || answer == NO_CELL;
    }

    private int answer(int call) {
        int[] a = told;
        switch (call) {
            case 0: return x.feed((long) a[0] << 32 | a[0], a[1]);
            case TEXT: return x.text();
            case 2: return x.lines(a[0], a[1]);
            case 3: return x.part(a[0], a[1], a[2], a[3]);
            case 4: return x.box(a[0], a[1]);
            case 5: return x.work(a[0], a[1], a[2], a[3], a[4]);
            case 6: return x.cell(a[0], a[1], a[2], a[3]);
            case 7: return x.latest(a[0]);
            case 8: return x.row(a[0]);
            case 9: return x.send(a[0], a[1], a[2], a[3]);
            case 10: return x.lead(a[0], a[1], a[2]);
            case 11: return x.led(a[0], a[1]);
            case 12: return x.hold(a[0]);
            case 13: return x.release();
            case 14: return x.whole(a[0], a[1], a[2]);
            case 15: return x.copy(a[0]);
            case 16: return x.fall(a[0]);
            case 17: return x.letter(a[0], a[1], a[2], a[3]);
            case 18: return x.shown(a[0], a[1], a[2], a[3], a[4]);
            case 19: return x.ways(a[0], a[1], a[2], a[3]);
            case 20: return x.orders(a[0], a[1], a[2], a[3], a[4]);
            case 21: return x.act(a[0], a[1], a[2]);
            case 22: return x.trace(a[0]);
            case 23: return x.as(a[0], a[1]);
            case IMAGE: return x.image();
            case UNDO: return x.undo();
            default: return x.count(a[0]);
        }
    }
}
