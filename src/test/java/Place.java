/** Ways to bring an object quickly into a state that a test needs. */
final class Place {
    private Place() {
    }

    static ManyNames withNames(int... prices) {
        ManyNames x = new ManyNames();
        for (int price : prices) {
            x.name(price);
        }
        return x;
    }

    /** Lays a text on the tape, whatever its length. */
    static void write(ManyNames x, String text) {
        for (int at = 0; at < text.length(); at += 8) {
            long v = 0;
            for (int i = at; i < at + 8; i++) {
                v = v << 8 | (i < text.length() ? text.charAt(i) & 255 : ' ');
            }
            x.feed(v);
        }
        x.end(text.length());
    }

    static int tell(ManyNames x, String text) {
        x.end(0);
        write(x, text);
        return x.rules();
    }

    static void sheet(ManyNames x, int k, int lane, int... cells) {
        x.sheet(k, lane, cells.length);
        for (int i = 0; i < cells.length; i++) {
            x.lay(k, i, cells[i]);
        }
    }

    /** The numbers next to a span on both sides, and the machine's last ones. */
    static int[] outside(int least, int most) {
        return new int[] {least - 1, most + 1, Integer.MIN_VALUE, Integer.MAX_VALUE};
    }

    /**
     * Some of all, nothing full: six names (0 a seed; 3 made; 2 and 4, who stood for it, fined), six ties, five words,
     * rules that were told and a fault behind them, a text on the tape, sheets 0 to 2 with words, 3 nothing, a word lost.
     */
    static ManyNames some() {
        ManyNames x = withNames(3, 0, 5, 0, 7, 9);
        x.day(20);
        x.tie(0, 1, 30, 0);
        x.tie(1, 2, 20, 1);
        x.tie(2, 3, 41, 2);
        x.tie(4, 3, 10, 2);
        x.tie(0, 4, 10, 3);
        x.tie(0, 5, 9, 0);
        x.seed(0, true);
        x.pledge(1, 25);
        x.pledge(3, 40);
        x.word(0, 1, 1, 8);
        x.word(1, 2, 2, 9);
        x.word(2, 0, 3, 10);
        x.word(4, 1, 1, 3);
        x.word(3, 1, 4, 7);
        x.made(3);
        x.day(50);
        tell(x, "met 90; said 60; bought 40; fine 30;");
        tell(x, "good 11;");
        write(x, "met 70; fade 3;");
        sheet(x, 0, 0, 0, 2, 10, 4, 1, 0, 11, 5);
        sheet(x, 1, 1, 2, 1, 12, 6, 1);
        sheet(x, 2, 2, 5, 0, 13, 7);
        x.read(1, 0, 0, 1);
        return x;
    }

    /** All full: twelve names with a price (11 made), 24 ties, 24 words, the last day, 200 bytes, sheets of 48 cells. */
    static ManyNames full() {
        ManyNames x = withNames(1, 2, 3, 4, 5, 6, 7, 8, 9, 10, 11, 999);
        x.day(9900);
        x.seed(0, true);
        for (int t = 0; t < 24; t++) {
            x.tie(t % 12, (t + 1 + t / 12) % 12, 100 + t, t % 4);
        }
        for (int w = 0; w < 24; w++) {
            x.word(w % 12, (w + 5) % 12, w, w % 11);
        }
        x.made(11);
        x.day(9999);
        write(x, "fine 9; " + " ".repeat(192));
        for (int k = 0; k < 4; k++) {
            x.sheet(k, k % 3, 48);
        }
        return x;
    }
}
