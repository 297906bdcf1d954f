/** Promises 32 to 36: sheets, words read from them, counts. */
public final class SheetsTest {
    private static final Check C = new Check();

    public static void main(String[] args) {
        sheets();
        laying();
        lanesKeepLowestBits();
        reading();
        readingFromACell();
        machineRefuses();
        wordsRefused();
        fullOfWords();
        lostStays();
        readingNothing();
        counts();
        C.finish();
    }

    private static void sheets() {
        ManyNames x = new ManyNames();
        C.due("32 no sheet", x.sheet(4, 0, 1), -1);
        C.due("32 no sheet", x.sheet(-1, 0, 1), -1);
        C.due("32 no lane", x.sheet(0, 3, 1), -1);
        C.due("32 no lane", x.sheet(0, -1, 1), -1);
        C.due("32 beyond", x.sheet(0, 0, 49), -1);
        C.due("32 size", x.sheet(0, 0, -1), -14);
        C.due("32 size", x.sheet(0, 0, Integer.MIN_VALUE), -14);
        C.due("32 bad ahead of size", x.sheet(0, 3, -1), -1);
        C.due("36 nothing still", x.count(10), -4);
        C.due("32 none", x.sheet(0, 0, 0), 1);
        C.due("36 no cells", x.count(10), 0);
        C.due("32 all", x.sheet(0, 2, 48), 1);
        C.due("36 cells", x.count(10), 48);
        C.due("32 size", x.sheet(0, 0, -5), -14);
        C.due("36 as it was", x.count(10), 48);
        for (int k = 1; k < 4; k++) {
            C.due("32 sheet", x.sheet(k, k - 1, 4), 1);
        }
    }

    private static void laying() {
        ManyNames x = new ManyNames();
        C.due("33 null", x.lay(0, 0, 1), -11);
        C.due("33 null", x.lay(3, -1, 1), -11);
        C.due("33 no sheet", x.lay(4, 0, 1), -1);
        C.due("33 no sheet", x.lay(-1, 0, 1), -1);
        x.sheet(0, 1, 3);
        C.due("33 lay", x.lay(0, 0, 1), 1);
        C.due("33 lay", x.lay(0, 2, 1), 1);
        C.due("33 index", x.lay(0, 3, 1), -12);
        C.due("33 index", x.lay(0, -1, 1), -12);
        C.due("33 index", x.lay(0, Integer.MAX_VALUE, 1), -12);
        C.due("33 index", x.lay(0, Integer.MIN_VALUE, 1), -12);
        x.sheet(1, 0, 0);
        C.due("33 no cells", x.lay(1, 0, 1), -12);
    }

    private static void lanesKeepLowestBits() {
        int[] wide = {256, 65536, 0};
        for (int lane = 0; lane < 3; lane++) {
            ManyNames x = Place.withNames(0, 0);
            Place.sheet(x, 0, lane, wide[lane] + 1, -wide[lane], 7, wide[lane] * 3 + 9);
            C.due("33 lane " + lane, x.read(0, lane, 0, 1), 1);
            int[] due = {1, 0, 7, 9};
            for (int what = 0; what < 4; what++) {
                C.due("33 lane " + lane + " cell " + what, x.wordOf(0, what), due[what]);
            }
        }
        ManyNames x = Place.withNames(0, 0);
        Place.sheet(x, 0, 0, 1, 0, 255, 5);
        C.due("33 a byte of 255 is -1: no deal", x.read(0, 0, 0, 1), -20);
        Place.sheet(x, 0, 1, 1, 0, 256, 5);
        C.due("33 a short keeps 256: no deal", x.read(0, 1, 0, 1), -20);
        Place.sheet(x, 0, 1, 1, 0, 65535, 5);
        C.due("33 a short of 65535 is -1: no deal", x.read(0, 1, 0, 1), -20);
        Place.sheet(x, 0, 2, 1, 0, 65536, 5);
        C.due("33 an int keeps 65536: no deal", x.read(0, 2, 0, 1), -20);
        Place.sheet(x, 0, 2, 0, 1, 7, 9);
        x.sheet(0, 2, 4);
        x.lay(0, 0, 1);
        C.due("32 cells are 0 anew", x.read(0, 2, 0, 1), 1);
        for (int what = 0; what < 4; what++) {
            C.due("32 cell " + what, x.wordOf(0, what), what == 0 ? 1 : 0);
        }
    }

    private static void reading() {
        ManyNames x = Place.withNames(0, 0, 0);
        x.day(33);
        Place.sheet(x, 2, 1, 0, 1, 10, 5, 1, 2, 11, 6, 2, 0, 12, 7);
        C.due("34 read", x.read(2, 1, 0, 3), 3);
        C.due("35 none", x.lost(), 0);
        for (int w = 0; w < 3; w++) {
            C.due("34 who", x.wordOf(w, 0), w);
            C.due("34 seller", x.wordOf(w, 1), (w + 1) % 3);
            C.due("34 deal", x.wordOf(w, 2), 10 + w);
            C.due("34 mark", x.wordOf(w, 3), 5 + w);
            C.due("34 day", x.wordOf(w, 4), 33);
            C.due("34 counts", x.wordOf(w, 5), 1);
        }
        C.due("34 no sheet", x.read(4, 1, 0, 1), -1);
        C.due("34 no sheet", x.read(-1, 1, 0, 1), -1);
        C.due("34 no lane", x.read(2, 3, 0, 1), -1);
        C.due("34 no lane", x.read(2, -1, 0, 1), -1);
        C.due("34 n", x.read(2, 1, 0, 13), -1);
        C.due("34 n", x.read(2, 1, 0, -1), -1);
        C.due("36 words", x.count(6), 3);
    }

    private static void readingFromACell() {
        ManyNames x = Place.withNames(0, 0, 0);
        Place.sheet(x, 0, 2, -5, 0, 1, 10, 5, 1, 2, 11, 6, 2, 0, 12);
        C.due("34 from cell 1", x.read(0, 2, 1, 3), 2);
        C.due("35 index", x.lost(), 2);
        C.due("34 the first one", x.wordOf(0, 2), 10);
        C.due("34 the last one", x.wordOf(1, 3), 6);
        C.due("34 from cell 5", x.read(0, 2, 5, 1), 1);
        C.due("35 none", x.lost(), 0);
    }

    private static void machineRefuses() {
        ManyNames x = Place.withNames(0, 0, 0);
        Place.sheet(x, 0, 0, 0, 1, 10, 5, 1, 2, 11);
        int[] from = {-1, 7, 8, 48, Integer.MAX_VALUE, Integer.MIN_VALUE};
        for (int f : from) {
            x.read(0, 0, 0, 0);
            C.due("35 none", x.lost(), 0);
            C.due("34 from " + f, x.read(0, 0, f, 1), 0);
            C.due("35 index", x.lost(), 2);
        }
        C.due("34 another lane", x.read(0, 1, 0, 1), 0);
        C.due("35 cast", x.lost(), 3);
        C.due("34 another lane, beyond", x.read(0, 2, 99, 1), 0);
        C.due("35 cast", x.lost(), 3);
        C.due("34 nothing", x.read(1, 2, -1, 12), 0);
        C.due("35 null", x.lost(), 1);
        C.due("36 no words", x.count(6), 0);
        C.due("34 the whole one ahead", x.read(0, 0, 0, 12), 1);
        C.due("35 index", x.lost(), 2);
        C.due("36 one word", x.count(6), 1);
        x.sheet(3, 0, 0);
        C.due("34 no cells", x.read(3, 0, 0, 1), 0);
        C.due("35 index", x.lost(), 2);
    }

    private static void wordsRefused() {
        ManyNames x = Place.withNames(0, 0, 0);
        Place.sheet(x, 0, 0, 0, 1, 10, 5, 1, 1, 11, 6, 2, 0, 12, 7, 1);
        C.due("34 word 1 is of itself", x.read(0, 0, 0, 4), -21);
        C.due("34 none came", x.count(6), 0);
        C.due("34 behind it", x.read(0, 0, 8, 1), 1);
        x.lay(0, 5, 2);
        C.due("34 now it is taken, the cut one is not", x.read(0, 0, 0, 4), 3);
        x.made(2);
        C.due("34 word 2 is said by a made one", x.read(0, 0, 0, 3), -22);
        C.due("34 none came", x.count(6), 4);
        x.lay(0, 3, 11);
        C.due("34 the first met", x.read(0, 0, 0, 3), -20);
    }

    private static void fullOfWords() {
        ManyNames x = Place.withNames(0, 0, 0);
        for (int w = 0; w < 22; w++) {
            x.word(0, 1, w, 5);
        }
        Place.sheet(x, 0, 0, 0, 1, 30, 5, 1, 2, 31, 6, 2, 0, 32, 7, 0, 0, 33, 1);
        C.due("34 the 25th", x.read(0, 0, 0, 3), -3);
        C.due("34 none came", x.count(6), 22);
        C.due("34 full is met ahead of a bad one", x.read(0, 0, 0, 4), -3);
        x.lay(0, 8, 9);
        C.due("34 bad ahead of full", x.read(0, 0, 0, 3), -22);
        x.lay(0, 8, 2);
        x.made(2);
        C.due("34 full ahead of made", x.read(0, 0, 0, 3), -3);
        C.due("34 the 24th", x.read(0, 0, 0, 2), 2);
        C.due("36 words", x.count(6), 24);
        C.due("34 no more", x.read(0, 0, 0, 1), -3);
        C.due("34 none", x.read(0, 0, 0, 0), 0);
    }

    private static void lostStays() {
        ManyNames x = Place.withNames(0, 0);
        Place.sheet(x, 0, 0, 0, 0, 0, 0, 0);
        x.read(0, 1, 0, 1);
        C.due("35 cast", x.lost(), 3);
        x.read(4, 0, 0, 1);
        C.due("35 a bad one came to no end", x.lost(), 3);
        x.read(0, 0, 0, -1);
        C.due("35 a bad one came to no end", x.lost(), 3);
        C.due("34 refused", x.read(0, 0, 0, 2), -20);
        C.due("35 a refused one came to no end", x.lost(), 3);
        x.lay(0, 1, 1);
        C.due("34 read", x.read(0, 0, 0, 1), 1);
        C.due("35 none", x.lost(), 0);
    }

    /** No word is read, so the machine refuses none, whatever the sheet is, its lane and the cell. */
    private static void readingNothing() {
        int[] from = {0, 1, 99, -1, Integer.MAX_VALUE, Integer.MIN_VALUE};
        // There is no lane -1: the sheet stays nothing.
        for (int sort = -1; sort < 3; sort++) {
            for (int lane = 0; lane < 3; lane++) {
                for (int f : from) {
                    String where = " words of lane " + sort + " as of " + lane + " from " + f;
                    ManyNames x = Place.withNames(0, 0);
                    x.read(2, 0, 0, 1);
                    C.due("35 null ahead of it", x.lost(), 1);
                    x.sheet(1, sort, 2);
                    C.due("34 no" + where, x.read(1, lane, f, 0), 0);
                    C.due("35 no" + where, x.lost(), 0);
                    C.due("34 one of" + where, x.read(1, lane, f, 1), 0);
                    C.due("35 one of" + where, x.lost(), sort < 0 ? 1 : sort == lane ? 2 : 3);
                    C.due("36 no" + where, x.count(6), 0);
                }
            }
        }
    }

    private static void counts() {
        ManyNames x = Place.withNames(1, 2, 3, 4);
        x.seed(0, true);
        x.seed(3, true);
        x.tie(1, 2, 50, 2);
        x.tie(0, 1, 50, 0);
        x.tie(0, 3, 50, 3);
        x.day(20);
        x.made(2);
        x.word(0, 1, 1, 1);
        x.word(0, 1, 2, 1);
        x.feed(0L);
        x.sheet(0, 1, 5);
        x.sheet(1, 1, 6);
        int[] due = {4, 2, 1, 1, 3, 1, 2, 1, 20, 8, 5};
        for (int what = 0; what < due.length; what++) {
            C.due("36 count(" + what + ")", x.count(what), due[what]);
        }
        C.due("36 what", x.count(11), -1);
        C.due("36 what", x.count(-1), -1);
        x.day(120);
        C.due("36 the fine is over", x.count(3), 0);
    }
}
