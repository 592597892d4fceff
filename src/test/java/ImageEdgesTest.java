import java.util.function.Consumer;
import java.util.function.Supplier;

/**
 * Promises 26 to 28: THE IMAGE is all that there is but THE IMAGE, undo() brings all of it back as
 * often as it is asked, and what is made behind it is new; count() of nothing and of the most.
 */
public final class ImageEdgesTest {
    private static final Due due = new Due("ImageEdgesTest");

    public static void main(String[] args) {
        noImage();
        imageOfNothing();
        imageOfTheMost();
        imageChangesNothing();
        eachChangeIsUndone();
        asOftenAsAsked();
        theLatestImage();
        undoIsOfTheImageAlone();
        whatIsMadeBehindIsNew();
        fullOnceMore();
        countOfNothing();
        countOfTheMost();
        countOfEachByItself();
        due.end();
    }

    private static void noImage() {
        WayBoxes x = Due.boxes("*:p");
        due.is("STATE", -3, x.undo());
        due.is("STATE still", -3, x.undo());
        due.is("nothing went", 1, x.count(1));
        x.image();
        due.is("there is one now", 1, x.undo());
    }

    private static void imageOfNothing() {
        WayBoxes x = new WayBoxes();
        due.is("no BOXES", 0, x.image());
        due.is("no BOXES", 0, x.undo());
        String begun = Seen.all(() -> {
            WayBoxes y = new WayBoxes();
            y.image();
            return y;
        });
        String back = Seen.all(() -> {
            WayBoxes y = new WayBoxes();
            y.image();
            Due.text(y, "*:t0=n,s0=n,g0=n");
            for (int box = 0; box < 8; box++) y.box(box % 7, 0);
            for (int place = 0; place < 6; place++) y.row(place);
            y.send(3, 2, 1, 7);
            y.hold(65535);
            y.send(3, 2, 1, 7);
            y.letter(0, 0, 0, 0);
            y.copy(0);
            y.act(0, 2, 1);
            y.feed(7, 7);
            due.is("back to nothing", 0, y.undo());
            return y;
        });
        due.isTrue("as a new one with an IMAGE", begun.equals(back));
    }

    private static void imageOfTheMost() {
        WayBoxes x = Due.boxes("*:p");
        for (int boxes = 1; boxes <= 8; boxes++) {
            due.is("so many", boxes, x.image());
            due.is("so many", boxes, x.undo());
            x.box(0, 0);
        }
        due.is("not nine", 8, x.image());
        due.isTrue("the brim comes back", Seen.now(Made::brim).equals(Seen.now(() -> {
            WayBoxes y = Made.brim();
            y.release();
            y.row(-1);
            for (int box = 0; box < 8; box++) y.work(box, box, 0, 0, 77);
            y.copy(0);
            y.act(0, 0, 0);
            y.undo();
            return y;
        })));
    }

    private static void imageChangesNothing() {
        for (int begun = 0; begun < 3; begun++) {
            Supplier<WayBoxes> made = made(begun);
            due.isTrue("an IMAGE changes nothing", Seen.now(made).equals(Seen.now(() -> {
                WayBoxes x = made.get();
                x.image();
                x.image();
                return x;
            })));
        }
    }

    private static Supplier<WayBoxes> made(int begun) {
        return begun == 0 ? Made::empty : begun == 1 ? Made::some : Made::brim;
    }

    /** Whatever is done behind an IMAGE, undo() makes all as it was. */
    private static void undone(String what, Consumer<WayBoxes> changes) {
        String seen = Seen.all(() -> {
            WayBoxes x = Made.some();
            x.image();
            return x;
        });
        due.isTrue(what + " is undone", seen.equals(Seen.all(() -> {
            WayBoxes x = Made.some();
            x.image();
            changes.accept(x);
            due.is(what + ", undo", 4, x.undo());
            return x;
        })));
    }

    private static void eachChangeIsUndone() {
        undone("nothing", x -> { });
        undone("feed", x -> x.feed(7, 7));
        undone("a FAULT", x -> Due.text(x, "z"));
        undone("text", x -> x.text());
        undone("a TAPE that is begun anew", x -> {
            x.text();
            Due.feed(x, "zzzzzzzz");
        });
        undone("box", x -> x.box(1, 1));
        undone("work", x -> x.work(0, 0, 0, 0, 77));
        undone("work that breaks", x -> x.work(2, 2, 0, 2, 0));
        undone("row", x -> x.row(3));
        undone("row of none", x -> x.row(-1));
        undone("row of another", x -> {
            x.row(-1);
            x.row(1);
            x.row(0);
        });
        undone("send", x -> x.send(2, 0, 0, 77));
        undone("send of a HELD one", x -> x.send(0, 0, 0, 77));
        undone("lead", x -> x.lead(0, 2, 65535));
        undone("lead back", x -> x.lead(0, 0, 65535));
        undone("lead elsewhere", x -> x.lead(0, 3, 6));
        undone("hold", x -> x.hold(65535));
        undone("release", x -> x.release());
        undone("release and others wait", x -> {
            x.release();
            x.hold(65535);
            for (int i = 0; i < 20; i++) x.send(i % 16, 3, 3, 99);
        });
        undone("copy", x -> x.copy(0));
        undone("copy of one that had none", x -> {
            x.work(3, 0, 0, 0, 77);
            x.copy(3);
        });
        undone("fall", x -> x.fall(1));
        undone("letter", x -> x.letter(9, 0, 0, 77));
        undone("act", x -> x.act(3, 2, 77));
        undone("no such act", x -> x.act(3, 3, 77));
    }

    private static void asOftenAsAsked() {
        String once = Seen.all(() -> {
            WayBoxes x = Made.some();
            x.undo();
            return x;
        });
        String often = Seen.all(() -> {
            WayBoxes x = Made.some();
            for (int time = 0; time < 5; time++) {
                x.undo();
                // What is done to BOX 0 now is not done to THE IMAGE's.
                x.work(0, time, time % 4, 0, 60 + time);
                x.copy(0);
                x.row(1);
                x.hold(1 << time);
                x.send(time, 0, 0, 1);
                x.letter(time, 0, 0, time);
                x.feed(time, 3);
                x.act(0, 2, time);
                x.lead(0, 1, 65535);
            }
            x.undo();
            return x;
        });
        due.isTrue("each time the same", once.equals(often));
    }

    private static void theLatestImage() {
        WayBoxes x = Due.boxes("*:g0=g0+n");
        x.work(0, 0, 0, 0, 1);
        due.is("one", 1, x.image());
        x.work(0, 0, 0, 0, 2);
        x.box(0, 0);
        due.is("two", 2, x.image());
        x.work(0, 0, 0, 0, 4);
        x.box(0, 0);
        due.is("the second IMAGE", 2, x.undo());
        due.is("its g0", 3, x.cell(0, 2, 0, 0));
        due.is("the second IMAGE again", 2, x.undo());
        due.is("of an older one nothing is left", 3, x.cell(0, 2, 0, 0));
    }

    private static void undoIsOfTheImageAlone() {
        WayBoxes x = Due.boxes("*:g0=g0+n");
        x.image();
        WayBoxes other = new WayBoxes();
        due.is("another object has none", -3, other.undo());
        for (int n = 1; n < 50; n++) {
            x.work(0, 0, 0, 0, n);
            due.is("g0", n, x.cell(0, 2, 0, 0));
            due.is("undo", 1, x.undo());
            due.is("g0", 0, x.cell(0, 2, 0, 0));
        }
    }

    /** A BOX that is made where an undone one was has nothing of it. */
    private static void whatIsMadeBehindIsNew() {
        WayBoxes x = Due.boxes("*:t0=n,s0=n,g0=n");
        x.image();
        x.box(4, 0);
        x.box(5, Due.text(x, "*:d;*:d"));
        x.work(1, 15, 3, 3, 9);
        x.copy(1);
        x.copy(1);
        x.lead(1, 2, 65535);
        x.undo();
        due.is("its TEXT's number is free", 1, Due.text(x, "*:b"));
        due.is("its number is free", 1, x.box(6, 1));
        due.is("its KIND", 1, x.as(1, 6));
        due.is("not the undone one's", -6, x.as(1, 4));
        due.is("LINES of its TEXT", 1, x.lines(1, -1));
        due.is("latest", -5, x.latest(1));
        due.is("t0", 0, x.cell(1, 0, 0, 15));
        due.is("s0", 0, x.cell(1, 1, 0, 3));
        due.is("g0", 0, x.cell(1, 2, 0, 0));
        due.is("led", 1, x.led(1, 15));
        due.is("leads none", 0, x.lead(1, 1, 0));
        due.is("a fall without a COPY", 65535, x.fall(1));
        due.is("g0", 0, x.cell(1, 2, 0, 0));
        due.is("no COPY", 0, x.copy(1));
        due.is("worked by its TEXT", 2, x.work(1, 0, 0, 0, 0));
    }

    /** All limits are of what there is: behind undo() there is room again. */
    private static void fullOnceMore() {
        WayBoxes x = new WayBoxes();
        x.image();
        for (int time = 0; time < 3; time++) {
            for (int text = 0; text < 8; text++) due.is("text", text, Due.text(x, "*:p"));
            due.is("FULL", -4, x.text());
            for (int box = 0; box < 8; box++) due.is("box", box, x.box(0, box));
            due.is("FULL", -4, x.box(0, 0));
            for (int place = 1; place <= 6; place++) due.is("row", place, x.row(0));
            due.is("FULL", -4, x.row(0));
            x.hold(1);
            for (int i = 0; i < 20; i++) due.is("waits", -6, x.send(0, 0, 0, 0));
            due.is("FULL", -4, x.send(0, 0, 0, 0));
            for (int i = 1; i <= 5; i++) due.is("letter", i, x.letter(0, 0, 0, 0));
            due.is("FULL", -4, x.letter(0, 0, 0, 0));
            for (int i = 1; i <= 20; i++) due.is("feed", 8 * i, x.feed(0, 8));
            due.is("FULL", -4, x.feed(0, 1));
            due.is("undo", 0, x.undo());
            for (int what = 0; what < 8; what++) due.is("count " + what, 0, x.count(what));
        }
    }

    private static void countOfNothing() {
        WayBoxes x = new WayBoxes();
        for (int what = 0; what < 8; what++) due.is("count " + what, 0, x.count(what));
        for (int what : new int[] {-1, Integer.MIN_VALUE, 8, Integer.MAX_VALUE}) due.is("count", -1, x.count(what));
    }

    private static void countOfTheMost() {
        int[] most = {8, 8, 6, 20, 65535, 5, 160, 6};
        WayBoxes x = Made.brim();
        for (int what = 0; what < 8; what++) due.is("count " + what, most[what], x.count(what));
    }

    /** One call counts for one of them. */
    private static void countOfEachByItself() {
        WayBoxes x = Made.some();
        int[] counts = {3, 4, 2, 3, 9, 3, 6, 6};
        for (int what = 0; what < 8; what++) due.is("count " + what, counts[what], x.count(what));
        x.feed('0', 1);
        counts[6] = 7;
        x.letter(0, 0, 0, 0);
        counts[5] = 4;
        x.send(3, 0, 0, 0);
        counts[3] = 4;
        x.hold(2);
        counts[4] = 11;
        x.row(1);
        counts[2] = 3;
        x.box(0, 0);
        counts[1] = 5;
        x.act(0, 0, 0);
        counts[7] = 1;
        for (int what = 0; what < 8; what++) due.is("count " + what, counts[what], x.count(what));
        x.text();
        counts[0] = 4;
        counts[6] = 0;
        x.release();
        counts[3] = 0;
        counts[4] = 0;
        for (int what = 0; what < 8; what++) due.is("count " + what, counts[what], x.count(what));
    }
}
