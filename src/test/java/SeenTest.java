import java.util.function.Consumer;
import java.util.function.Supplier;
import java.util.function.ToIntFunction;

/**
 * What Seen sees: each call that changes something is seen, so that "changes nothing" means it; and
 * the calls that only ask change nothing, whatever they answer.
 */
public final class SeenTest {
    private static final Due due = new Due("SeenTest");

    public static void main(String[] args) {
        changesAreSeen(Made::some);
        askingChangesNothing(Made::some);
        askingChangesNothing(Made::brim);
        asMuchAsNothing();
        due.end();
    }

    private static String seenBehind(Supplier<WayBoxes> made, Consumer<WayBoxes> calls) {
        return Seen.all(() -> {
            WayBoxes x = made.get();
            calls.accept(x);
            return x;
        });
    }

    private static void changes(String call, Supplier<WayBoxes> made, Consumer<WayBoxes> calls) {
        due.isTrue(call + " is seen", !seenBehind(made, calls).equals(Seen.all(made)));
    }

    private static void changesAreSeen(Supplier<WayBoxes> made) {
        changes("a byte fed", made, x -> x.feed(0, 1));
        changes("a TEXT", made, WayBoxes::text);
        changes("a BOX", made, x -> x.box(0, 0));
        changes("a packet worked", made, x -> x.work(3, 15, 3, 0, 99));
        changes("one more in THE ROW", made, x -> x.row(3));
        changes("THE ROW emptied", made, x -> x.row(-1));
        changes("THE ROW in another order", made, x -> {
            x.row(-1);
            x.row(1);
            x.row(0);
        });
        changes("a packet sent", made, x -> x.send(4, 0, 0, 1));
        changes("a packet that waits", made, x -> x.send(0, 0, 0, 1));
        changes("a TALK led", made, x -> x.lead(0, 2, 8));
        changes("a TALK led back", made, x -> x.lead(1, 1, 32768));
        changes("a TALK HELD", made, x -> x.hold(16));
        changes("what waits, LET GO", made, WayBoxes::release);
        changes("a COPY", made, x -> x.copy(3));
        changes("a fall", made, x -> x.fall(1));
        changes("a letter", made, x -> x.letter(0, 0, 0, 0));
        changes("an ACT", made, x -> x.act(0, 0, 0));
        changes("no such ACT", made, x -> x.act(0, 3, 0));
        changes("an IMAGE", made, WayBoxes::image);
        changes("an undo", made, WayBoxes::undo);
    }

    private static void asks(String call, Supplier<WayBoxes> made, ToIntFunction<WayBoxes> told) {
        due.isTrue(call + " changes nothing", seenBehind(made, told::applyAsInt).equals(Seen.all(made)));
    }

    private static void askingChangesNothing(Supplier<WayBoxes> made) {
        asks("lines", made, x -> x.lines(0, -1) + x.lines(0, 1));
        asks("part", made, x -> x.part(0, 0, 1, 0) + x.part(0, 1, 2, 1));
        asks("cell", made, x -> x.cell(0, 0, 0, 1) + x.cell(0, 1, 1, 1) + x.cell(1, 2, 0, 9));
        asks("latest", made, x -> x.latest(0));
        asks("led", made, x -> x.led(0, 1));
        asks("whole", made, x -> x.whole(0, 1, 2) + x.whole(3, 2, 0));
        for (int form = 0; form < 5; form++) {
            int its = form;
            asks("shown", made, x -> x.shown(0, its, 1, 3, -1) + x.shown(1, its, 1, 3, 0));
            asks("orders", made, x -> x.orders(15, its, 1, 3, -1) + x.orders(7, its, 1, 3, 1));
        }
        asks("ways", made, x -> x.ways(0, 1, 3, -1) + x.ways(1, 0, 3, 0));
        asks("trace", made, x -> x.trace(0));
        asks("as", made, x -> x.as(0, 0) + x.as(0, 5));
        asks("count", made, x -> x.count(0) + x.count(7));
    }

    /** Calls that are taken and change nothing, as there is nothing to change. */
    private static void asMuchAsNothing() {
        asks("an empty ROW emptied", Made::empty, x -> x.row(-1));
        asks("hold of no TALKS", Made::some, x -> x.hold(0));
        asks("hold of HELD ones", Made::some, x -> x.hold(9));
        asks("lead of no TALKS", Made::some, x -> x.lead(0, 2, 0));
        asks("lead of TALKS that are led there", Made::some, x -> x.lead(0, 2, 6));
        asks("lead to itself, where they are", Made::some, x -> x.lead(0, 0, 65535 & ~6));
        asks("lead to itself, of one that leads none", Made::some, x -> x.lead(3, 3, 65535));
        asks("release with nothing HELD", Made::empty, WayBoxes::release);
        asks("a fall of an empty MEMORY", Made::some, x -> x.fall(3));
    }
}
