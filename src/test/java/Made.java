/** Objects in states from which tests begin; each call makes a new one. */
final class Made {
    private Made() {
    }

    /** A new object. */
    static WayBoxes empty() {
        return new WayBoxes();
    }

    /**
     * Something in each place, and room for more in each: 3 TEXTS, 4 BOXES, COPIES of two, a ROW of
     * 2, TALKS that are led and HELD, 3 packets that wait, 3 letters, 6 bytes, 6 bodies. THE IMAGE
     * is of less, and of another TAPE.
     */
    static WayBoxes some() {
        WayBoxes x = new WayBoxes();
        Due.text(x, "0:t0=t0+n,s1=s1+n,g2=g2+1;1:t1=n,d;2:b");
        Due.text(x, "*(n=9):d;*:t0=n,g0=g0+n");
        x.box(4, 0);
        x.box(0, 1);
        x.row(0);
        x.work(0, 5, 3, 0, 40);
        Due.feed(x, "0:d");
        x.image();
        x.text();
        x.box(2, 0);
        x.box(6, 2);
        x.copy(0);
        x.work(0, 5, 3, 0, 2);
        x.copy(0);
        x.work(0, 1, 2, 1, 7);
        x.work(1, 15, 0, 3, 8);
        x.copy(1);
        x.work(1, 15, 0, 3, 1);
        x.row(1);
        x.lead(0, 2, 6);
        x.lead(1, 2, 32768);
        x.work(2, 2, 0, 0, 33);
        x.hold(9);
        x.send(0, 1, 0, 3);
        x.send(3, 1, 0, 4);
        x.send(0, 2, 0, 5);
        x.send(2, 1, 0, 6);
        x.letter(0, 0, 1, 1);
        x.letter(1, 0, 0, 2);
        x.letter(0, 3, 0, 3);
        x.act(0, 2, 5);
        Due.feed(x, "*:t0=3");
        return x;
    }

    /**
     * As much as there may be of each: 8 TEXTS, 8 BOXES, a ROW of 6, all TALKS HELD, 20 packets that
     * wait, 5 letters, 160 bytes. THE IMAGE is of all that.
     */
    static WayBoxes brim() {
        WayBoxes x = new WayBoxes();
        Due.text(x, "0:t0=t0+n,s1=s1+n,g2=g2+1;1:t1=n;2:b");
        for (int text = 1; text < 8; text++) Due.text(x, "2:d;*:t0=t0+n,g0=" + text);
        for (int box = 0; box < 8; box++) x.box(box % 7, box);
        x.lead(4, 7, 3);
        for (int place = 0; place < 6; place++) x.row(place);
        x.send(0, 0, 0, 3);
        x.hold(65535);
        for (int i = 0; i < 20; i++) x.send(i % 16, i % 4, i % 3, i);
        for (int i = 0; i < 5; i++) x.letter(i, 0, i % 3, 90 + i);
        x.copy(3);
        x.act(4, 2, 5);
        for (int i = 0; i < 20; i++) x.feed(0x7878787878787878L, 8);
        x.image();
        return x;
    }
}
