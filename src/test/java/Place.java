/** Ways to bring an object quickly into a state that a test needs. */
final class Place {
    private Place() {
    }

    static ManyNames withNames(int... prices) {
        ManyNames x = new ManyNames();
        for (int price : prices) {
            x.name(price);
        }
        return x;
    }

    /** Lays a text on the tape, whatever its length. */
    static void write(ManyNames x, String text) {
        for (int at = 0; at < text.length(); at += 8) {
            long v = 0;
            for (int i = at; i < at + 8; i++) {
                v = v << 8 | (i < text.length() ? text.charAt(i) & 255 : ' ');
            }
            x.feed(v);
        }
        x.end(text.length());
    }

    static int tell(ManyNames x, String text) {
        x.end(0);
        write(x, text);
        return x.rules();
    }

    static void sheet(ManyNames x, int k, int lane, int... cells) {
        x.sheet(k, lane, cells.length);
        for (int i = 0; i < cells.length; i++) {
            x.lay(k, i, cells[i]);
        }
    }
}
