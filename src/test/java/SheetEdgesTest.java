/** Promises 32 to 36: each sentence of the document that names an edge has a test here, with its words ahead of it. */
public final class SheetEdgesTest {
    private static final Check C = new Check();
    private static final Still S = new Still(C);

    public static void main(String[] args) {
        sheetsToTake();
        sheetsToRefuse();
        sizesBelowNought();
        rowsAreNew();
        cellsToTake();
        cellsToRefuse();
        cellsOfNothing();
        lowestBits();
        readsToRefuse();
        readsOfNone();
        readsOfTwelve();
        readsFromACell();
        readsThatWrapAround();
        readsOfAnotherLane();
        readsOfNothing();
        wholeOnesAhead();
        wordsRefused();
        eachNumberOfAWord();
        wordsOfMade();
        theTwentyFifth();
        theFirstMet();
        wordsComeAsByWord();
        lostOfTheLatest();
        countsOfFull();
        countsToRefuse();
        cellsOfSheetNought();
        C.finish();
    }

    /** "SHEETS 0 to 3 are rows of BYTES (lane 0), SHORTS (1), INTS (2) with 0 to 48 CELLS" */
    private static void sheetsToTake() {
        for (int k = 0; k < 4; k++) {
            for (int lane = 0; lane < 3; lane++) {
                for (int n : new int[] {0, 1, 47, 48}) {
                    String told = " of sheet " + k + ", lane " + lane + ", " + n + " cells";
                    ManyNames x = Place.withNames(0, 0);
                    C.due("32 row" + told, x.sheet(k, lane, n), 1);
                    C.due("33 beyond the last cell" + told, x.lay(k, n, 0), -12);
                    C.due("33 the last cell" + told, x.lay(k, n - 1, 0), n == 0 ? -12 : 1);
                    C.due("36 cells" + told, x.count(10), k == 0 ? n : -4);
                    C.due("34 of another lane" + told, x.read(k, (lane + 1) % 3, 0, 1), 0);
                    C.due("35 of another lane" + told, x.lost(), 3);
                }
            }
        }
    }

    /** "BAD: also n above 48" */
    private static void sheetsToRefuse() {
        for (int k : Place.outside(0, 3)) {
            S.due("32 no sheet " + k, Place::some, x -> x.sheet(k, 0, 1), -1);
            S.due("32 no sheet " + k + ", size", Place::some, x -> x.sheet(k, 0, -1), -1);
        }
        for (int lane : Place.outside(0, 2)) {
            S.due("32 no lane " + lane, Place::some, x -> x.sheet(0, lane, 1), -1);
            S.due("32 no lane " + lane + ", size", Place::some, x -> x.sheet(0, lane, -1), -1);
        }
        for (int k = 0; k < 4; k++) {
            int which = k;
            S.due("32 49", Place::some, x -> x.sheet(which, 0, 49), -1);
            S.due("32 many", Place::some, x -> x.sheet(which, 2, Integer.MAX_VALUE), -1);
            S.due("32 49", ManyNames::new, x -> x.sheet(which, 1, 49), -1);
        }
    }

    /** "-10 - 4": SIZE (below 0), behind BAD. */
    private static void sizesBelowNought() {
        for (int k = 0; k < 4; k++) {
            for (int lane = 0; lane < 3; lane++) {
                int which = k;
                int sort = lane;
                S.due("32 -1", Place::some, x -> x.sheet(which, sort, -1), -14);
                S.due("32 the least", Place::some, x -> x.sheet(which, sort, Integer.MIN_VALUE), -14);
                S.due("32 -1", ManyNames::new, x -> x.sheet(which, sort, -1), -14);
            }
        }
    }

    /** "A SHEET is a new row of CELLS 0" */
    private static void rowsAreNew() {
        ManyNames x = Place.withNames(0, 0);
        for (int k = 0; k < 4; k++) {
            Place.sheet(x, k, 0, 1, 1, 1, 1, 1, 1, 1, 1);
            C.due("32 a shorter one", x.sheet(k, 2, 5), 1);
            x.lay(k, 0, 1);
            C.due("34 cells 0 but the first, the old lane is gone", x.read(k, 2, 0, 1), 1);
            C.due("22 seller 0", x.wordOf(k, 1), 0);
            C.due("22 deal 0", x.wordOf(k, 2), 0);
            C.due("22 mark 0", x.wordOf(k, 3), 0);
            C.due("33 the old cells are gone", x.lay(k, 5, 0), -12);
            C.due("32 a longer one again", x.sheet(k, 0, 8), 1);
            x.lay(k, 4, 1);
            C.due("34 what lay there is gone", x.read(k, 0, 4, 1), 1);
        }
        C.due("36 eight words", x.count(6), 8);
        C.due("22 deal 0", x.wordOf(7, 2), 0);
    }

    /** "CELL i of a SHEET becomes v (..): 1." */
    private static void cellsToTake() {
        ManyNames x = Place.withNames(0, 0);
        x.sheet(3, 1, 48);
        for (int i = 0; i < 48; i++) {
            C.due("33 cell " + i, x.lay(3, i, i % 4 == 0 ? 1 : 0), 1);
        }
        C.due("33 the last one", x.lay(3, 47, 10), 1);
        C.due("34 of all", x.read(3, 1, 0, 12), 12);
        C.due("22 the first mark", x.wordOf(0, 3), 0);
        C.due("22 the last mark", x.wordOf(11, 3), 10);
    }

    /** "BAD: k; -10 less the FAULT: NULL, INDEX." */
    private static void cellsToRefuse() {
        for (int k : Place.outside(0, 3)) {
            S.due("33 no sheet " + k, Place::some, x -> x.lay(k, 0, 1), -1);
            S.due("33 no sheet " + k + ", no cell", Place::some, x -> x.lay(k, -1, 1), -1);
        }
        int[] sizes = {8, 5, 4};
        for (int k = 0; k < 3; k++) {
            int which = k;
            for (int i : Place.outside(0, sizes[k] - 1)) {
                S.due("33 sheet " + k + ", cell " + i, Place::some, x -> x.lay(which, i, 1), -12);
            }
        }
        for (int i : Place.outside(0, 47)) {
            S.due("33 of 48, cell " + i, Place::full, x -> x.lay(0, i, 1), -12);
        }
    }

    /** NULL ahead of INDEX; a row of no CELLS is a row. */
    private static void cellsOfNothing() {
        for (int i : new int[] {0, 1, 47, 48, -1, Integer.MIN_VALUE, Integer.MAX_VALUE}) {
            S.due("33 nothing, cell " + i, Place::some, x -> x.lay(3, i, 1), -11);
            ManyNames x = new ManyNames();
            x.sheet(3, 0, 0);
            C.due("33 no cells, cell " + i, x.lay(3, i, 1), -12);
        }
    }

    /** "becomes v (its lowest bits)": of a BYTE 8, of a SHORT 16, of an INT all. */
    private static void lowestBits() {
        int[] values = {0, 10, 127, 128, 255, 256, 266, -1, -128, -246, 32767, 32768, 65535, 65536, 65546, -65526,
            1 << 24 | 9, Integer.MAX_VALUE, Integer.MIN_VALUE};
        for (int lane = 0; lane < 3; lane++) {
            for (int v : values) {
                int kept = lane == 0 ? (byte) v : lane == 1 ? (short) v : v;
                ManyNames x = Place.withNames(0, 0);
                Place.sheet(x, 0, lane, 0, 1, 1, v);
                boolean isMark = kept >= 0 && kept <= 10;
                C.due("33 lane " + lane + ", " + v, x.read(0, lane, 0, 1), isMark ? 1 : -20);
                C.due("33 lane " + lane + ", " + v, x.wordOf(0, 3), isMark ? kept : -1);
            }
        }
        ManyNames x = Place.withNames(0, 0);
        Place.sheet(x, 0, 1, 0, 1, 1, 9);
        x.lay(0, 1, 65536 + 1);
        x.lay(0, 0, -65536);
        C.due("33 a cell leaves its neighbours", x.read(0, 1, 0, 1), 1);
        C.due("33 a cell leaves its neighbours", x.wordOf(0, 3), 9);
    }

    /** "BAD: k, lane, n" and "n (0 to 12) WORDS" */
    private static void readsToRefuse() {
        for (int k : Place.outside(0, 3)) {
            S.due("34 no sheet " + k, Place::some, x -> x.read(k, 0, 0, 1), -1);
            S.due("34 no sheet " + k + ", none", Place::some, x -> x.read(k, 0, 0, 0), -1);
        }
        for (int lane : Place.outside(0, 2)) {
            S.due("34 no lane " + lane, Place::some, x -> x.read(0, lane, 0, 1), -1);
            S.due("34 no lane " + lane + ", nothing", Place::some, x -> x.read(3, lane, 0, 1), -1);
        }
        for (int n : Place.outside(0, 12)) {
            S.due("34 n " + n, Place::some, x -> x.read(0, 0, 0, n), -1);
            S.due("34 n " + n + ", nothing", Place::some, x -> x.read(3, 0, 0, n), -1);
            S.due("34 n " + n + ", another lane", Place::some, x -> x.read(0, 1, 0, n), -1);
            S.due("34 n " + n + ", full", Place::full, x -> x.read(0, 0, 0, n), -1);
        }
    }

    /** "n (0 to 12)": none is read, so nothing is refused, and nothing is lost. */
    private static void readsOfNone() {
        for (int k = 0; k < 4; k++) {
            for (int lane = 0; lane < 3; lane++) {
                for (int f : new int[] {0, 8, -1, Integer.MIN_VALUE, Integer.MAX_VALUE}) {
                    ManyNames x = Place.some();
                    C.due("34 none", x.read(k, lane, f, 0), 0);
                    C.due("35 none", x.lost(), 0);
                    C.due("36 none came", x.count(6), 5);
                }
            }
        }
        C.due("34 none, where no more words go", Place.full().read(0, 0, 0, 0), 0);
    }

    /** Twelve WORDS in 48 CELLS: the most, of each lane. */
    private static void readsOfTwelve() {
        for (int lane = 0; lane < 3; lane++) {
            ManyNames x = Place.withNames(0, 0);
            x.sheet(0, lane, 48);
            for (int w = 0; w < 12; w++) {
                x.lay(0, 4 * w + 1, 1);
                x.lay(0, 4 * w + 2, 88 + w);
                x.lay(0, 4 * w + 3, w % 11);
            }
            C.due("34 twelve", x.read(0, lane, 0, 12), 12);
            C.due("35 none", x.lost(), 0);
            C.due("34 the last", x.wordOf(11, 2), 99);
            C.due("34 twelve of eleven", x.read(0, lane, 4, 12), 11);
            C.due("35 index", x.lost(), 2);
            C.due("34 the last again", x.wordOf(22, 2), 99);
            C.due("34 the last alone", x.read(0, lane, 44, 1), 1);
            C.due("35 none", x.lost(), 0);
            C.due("36 24", x.count(6), 24);
            C.due("34 the 25th", x.read(0, lane, 44, 1), -3);
        }
    }

    /** "four CELLS each from CELL f on" */
    private static void readsFromACell() {
        for (int f = -5; f <= 14; f++) {
            for (int n = 1; n <= 4; n++) {
                ManyNames x = Place.withNames(0, 0, 0, 0);
                // Any four of these in a row are a word.
                Place.sheet(x, 0, 0, 0, 1, 2, 3, 0, 1, 2, 3, 0, 1, 2);
                int whole = f < 0 || f > 11 ? 0 : Math.min(n, (11 - f) / 4);
                C.due("34 from " + f + ", " + n, x.read(0, 0, f, n), whole);
                C.due("35 from " + f + ", " + n, x.lost(), whole == n ? 0 : 2);
                C.due("36 from " + f + ", " + n, x.count(6), whole);
                for (int w = 0; w < whole; w++) {
                    for (int what = 0; what < 4; what++) {
                        C.due("34 cell from " + f, x.wordOf(w, what), (f + what) % 4);
                    }
                }
            }
        }
    }

    /** A CELL's number that is near the machine's last one does not come back to the row. */
    private static void readsThatWrapAround() {
        for (int i = 0; i < 52; i++) {
            ManyNames x = Place.withNames(0, 0);
            x.sheet(0, 2, 48);
            C.due("34 near the greatest", x.read(0, 2, Integer.MAX_VALUE - i, 12), 0);
            C.due("35 index", x.lost(), 2);
            C.due("34 near the least", x.read(0, 2, Integer.MIN_VALUE + i, 12), 0);
            C.due("35 index", x.lost(), 2);
            C.due("34 ahead of the first", x.read(0, 2, -1 - i, 12), 0);
            C.due("35 index", x.lost(), 2);
            C.due("34 behind the last", x.read(0, 2, 48 + i, 12), 0);
            C.due("35 index", x.lost(), 2);
            C.due("36 none came", x.count(6), 0);
        }
    }

    /** "a SHEET taken as of a lane" and "3 CAST (another lane)" */
    private static void readsOfAnotherLane() {
        for (int sort = 0; sort < 3; sort++) {
            for (int lane = 0; lane < 3; lane++) {
                ManyNames x = Place.withNames(0, 0);
                Place.sheet(x, 2, sort, 0, 1, 5, 6);
                C.due("34 lane " + sort + " as " + lane, x.read(2, lane, 0, 1), sort == lane ? 1 : 0);
                C.due("35 lane " + sort + " as " + lane, x.lost(), sort == lane ? 0 : 3);
                C.due("34 no cell, lane " + sort + " as " + lane, x.read(2, lane, -1, 1), 0);
                C.due("35 no cell, lane " + sort + " as " + lane, x.lost(), sort == lane ? 2 : 3);
                x.sheet(2, sort, 0);
                C.due("34 no cells, lane " + sort + " as " + lane, x.read(2, lane, 0, 1), 0);
                C.due("35 no cells, lane " + sort + " as " + lane, x.lost(), sort == lane ? 2 : 3);
            }
        }
    }

    /** "1 NULL (nothing)": ahead of INDEX and CAST. */
    private static void readsOfNothing() {
        for (int k = 0; k < 4; k++) {
            for (int lane = 0; lane < 3; lane++) {
                for (int f : new int[] {0, -1, 48, Integer.MAX_VALUE}) {
                    ManyNames x = Place.withNames(0, 0);
                    C.due("34 nothing", x.read(k, lane, f, 1), 0);
                    C.due("35 null", x.lost(), 1);
                    x.sheet(k, lane, -1);
                    C.due("34 nothing still", x.read(k, lane, f, 12), 0);
                    C.due("35 null", x.lost(), 1);
                }
            }
        }
    }

    /** "What the machine refuses: those that were whole ahead come (its FAULT is asked by lost())." */
    private static void wholeOnesAhead() {
        for (int cells = 0; cells <= 12; cells++) {
            ManyNames x = Place.withNames(0, 0);
            x.sheet(1, 0, cells);
            for (int i = 1; i < cells; i += 4) {
                x.lay(1, i, 1);
            }
            C.due("34 three of " + cells + " cells", x.read(1, 0, 0, 3), cells / 4);
            C.due("35 three of " + cells + " cells", x.lost(), cells == 12 ? 0 : 2);
            C.due("36 three of " + cells + " cells", x.count(6), cells / 4);
        }
        // A cut word is not looked at, however bad it is.
        ManyNames y = Place.withNames(0, 0);
        Place.sheet(y, 1, 0, 0, 1, 5, 6, 99, 99, 99);
        C.due("34 one, and three bad cells", y.read(1, 0, 0, 2), 1);
        C.due("35 index", y.lost(), 2);
    }

    /** "-20 less i: WORD i, whole, is refused by word() (BAD or STATE)": none came. */
    private static void wordsRefused() {
        for (int bad = 0; bad < 12; bad++) {
            int at = bad;
            S.due("34 word " + bad, () -> {
                ManyNames x = Place.some();
                x.sheet(3, 0, 48);
                for (int w = 0; w < 12; w++) {
                    x.lay(3, 4 * w + 1, w == at ? 0 : 1);
                    x.lay(3, 4 * w + 2, 40 + w);
                }
                return x;
            }, x -> x.read(3, 0, 0, 12), -20 - bad);
        }
    }

    private static void eachNumberOfAWord() {
        int[][] bounds = {{0, 5}, {0, 5}, {0, 99}, {0, 10}};
        for (int cell = 0; cell < 4; cell++) {
            for (int v : Place.outside(bounds[cell][0], bounds[cell][1])) {
                int[] word = {1, 2, 50, 5};
                word[cell] = v;
                S.due("34 cell " + cell + " is " + v, () -> {
                    ManyNames x = Place.some();
                    Place.sheet(x, 3, 2, word);
                    return x;
                }, x -> x.read(3, 2, 0, 1), -20);
            }
            for (int v : bounds[cell]) {
                int[] word = {1, 2, 50, 5};
                word[cell] = v;
                ManyNames x = Place.some();
                Place.sheet(x, 3, 2, word);
                C.due("34 cell " + cell + " is " + v, x.read(3, 2, 0, 1), 1);
                C.due("34 cell " + cell + " is " + v, x.wordOf(5, cell), v);
            }
        }
    }

    private static ManyNames withSheet(ManyNames x, int... cells) {
        Place.sheet(x, 3, 2, cells);
        return x;
    }

    private static void wordsOfMade() {
        S.due("34 said by a made one", () -> withSheet(Place.some(), 0, 1, 50, 5, 3, 1, 51, 5),
            x -> x.read(3, 2, 0, 2), -21);
        ManyNames x = withSheet(Place.some(), 1, 3, 50, 5);
        C.due("34 said of a made one", x.read(3, 2, 0, 1), 1);
    }

    private static ManyNames withWords(int many, int... cells) {
        ManyNames x = Place.withNames(0, 0, 0);
        x.made(2);
        for (int w = 0; w < many; w++) {
            x.word(0, 1, w, 5);
        }
        return withSheet(x, cells);
    }

    /** "FULL: it would be the 25th: then none came" */
    private static void theTwentyFifth() {
        int[] three = {0, 1, 50, 5, 1, 0, 51, 6, 0, 2, 52, 7};
        for (int many = 20; many <= 24; many++) {
            int had = many;
            for (int n = 0; n <= 3; n++) {
                int asked = n;
                if (many + n > 24) {
                    S.due("34 " + n + " behind " + many, () -> withWords(had, three), x -> x.read(3, 2, 0, asked), -3);
                } else {
                    ManyNames x = withWords(many, three);
                    C.due("34 " + n + " behind " + many, x.read(3, 2, 0, n), n);
                    C.due("36 " + n + " behind " + many, x.count(6), many + n);
                    C.due("35 none", x.lost(), 0);
                }
            }
        }
        // The cut word would be the 25th, but it is not whole.
        ManyNames x = withWords(23, 0, 1, 50, 5, 1, 0, 51);
        C.due("34 the 24th, and a cut one", x.read(3, 2, 0, 2), 1);
        C.due("35 index", x.lost(), 2);
        C.due("36 24", x.count(6), 24);
        C.due("34 where no more go a cut one is cut", x.read(3, 2, 4, 1), 0);
        C.due("35 index", x.lost(), 2);
        C.due("34 nothing to read where no more go", x.read(0, 0, 0, 12), 0);
        C.due("35 null", x.lost(), 1);
        C.due("34 another lane where no more go", x.read(3, 0, 0, 12), 0);
        C.due("35 cast", x.lost(), 3);
    }

    /** "the first met": WORD by WORD, and of one WORD as word() has it: BAD, FULL, STATE. */
    private static void theFirstMet() {
        S.due("34 bad, then another bad one", () -> withWords(0, 0, 0, 1, 5, 0, 0, 1, 5), x -> x.read(3, 2, 0, 2), -20);
        S.due("34 made, then a bad one", () -> withWords(0, 2, 0, 1, 5, 0, 0, 1, 5), x -> x.read(3, 2, 0, 2), -20);
        S.due("34 bad, then one too many", () -> withWords(23, 0, 0, 1, 5, 0, 1, 1, 5), x -> x.read(3, 2, 0, 2), -20);
        S.due("34 one too many, then a bad one", () -> withWords(24, 0, 1, 1, 5, 0, 0, 1, 5),
            x -> x.read(3, 2, 0, 2), -3);
        S.due("34 one too many that is bad", () -> withWords(23, 0, 1, 1, 5, 0, 0, 1, 5), x -> x.read(3, 2, 0, 2), -21);
        S.due("34 one too many that is made", () -> withWords(23, 0, 1, 1, 5, 2, 0, 1, 5), x -> x.read(3, 2, 0, 2), -3);
        S.due("34 one too many that is made and bad", () -> withWords(23, 0, 1, 1, 5, 2, 2, 1, 5),
            x -> x.read(3, 2, 0, 2), -21);
        S.due("34 the 24th is made", () -> withWords(23, 2, 1, 1, 5, 0, 1, 1, 5), x -> x.read(3, 2, 0, 2), -20);
        S.due("34 a bad one ahead of a cut one", () -> withWords(0, 0, 1, 1, 5, 0, 0, 1, 5, 1),
            x -> x.read(3, 2, 0, 3), -21);
    }

    /** What is read comes as by word(): on THE DAY, in its turn, each DEAL heard once. */
    private static void wordsComeAsByWord() {
        ManyNames x = Place.withNames(0, 0, 0);
        x.day(9999);
        x.word(0, 1, 7, 1);
        withSheet(x, 0, 2, 7, 2, 0, 2, 8, 3, 0, 2, 8, 4, 0, 2, 9, 5);
        C.due("34 four", x.read(3, 2, 0, 4), 4);
        int[] counts = {1, 0, 0, 0, 1};
        for (int w = 0; w < 5; w++) {
            C.due("22 mark", x.wordOf(w, 3), w + 1);
            C.due("22 day", x.wordOf(w, 4), 9999);
            C.due("22 counts", x.wordOf(w, 5), counts[w]);
        }
        C.due("34 the sheet stays", x.read(3, 2, 12, 1), 1);
    }

    /** "The FAULT of the latest read() that came to an end; 0." */
    private static void lostOfTheLatest() {
        S.due("35 none yet", ManyNames::new, ManyNames::lost, 0);
        S.due("35 cast", Place::some, ManyNames::lost, 3);
        for (int fault = 0; fault < 4; fault++) {
            ManyNames x = withWords(23, 0, 1, 50, 5, 0, 0, 51, 5, 0, 1, 52, 5, 2, 1, 53, 5);
            x.sheet(1, 0, 0);
            int n = fault == 0 ? 0 : 1;
            x.read(fault == 1 ? 0 : 1, fault == 3 ? 1 : 0, 0, n);
            C.due("35 fault " + fault, x.lost(), fault);
            C.due("34 bad", x.read(4, 0, 0, 1) + x.read(3, 3, 0, 1) + x.read(3, 2, 0, 13), -3);
            C.due("35 behind a bad one", x.lost(), fault);
            C.due("34 word 1 is bad", x.read(3, 2, 0, 2), -21);
            C.due("35 behind a refused one", x.lost(), fault);
            C.due("34 a made one", x.read(3, 2, 12, 1), -20);
            C.due("35 behind a refused one", x.lost(), fault);
            x.word(0, 1, 60, 5);
            C.due("34 full", x.read(3, 2, 0, 1), -3);
            C.due("35 behind a full one", x.lost(), fault);
            x.sheet(2, 2, -1);
            x.lay(2, 0, 0);
            C.due("35 sheet() and lay() are no read()", x.lost(), fault);
            C.due("34 none", x.read(3, 2, 0, 0), 0);
            C.due("35 none", x.lost(), 0);
        }
    }

    /** "How many: 0 NAMES, .. 10 CELLS of SHEET 0" */
    private static void countsOfFull() {
        // Six ties of kind 3 have no room, nor have two more of the made one; of two words of each pair one counts.
        int[] full = {12, 1, 1, 1, 24, 16, 24, 12, 9999, 200, 48};
        int[] some = {6, 1, 1, 2, 6, 4, 5, 4, 50, 15, 8};
        for (int what = 0; what < 11; what++) {
            int asked = what;
            S.due("36 full, " + what, Place::full, x -> x.count(asked), full[what]);
            S.due("36 some, " + what, Place::some, x -> x.count(asked), some[what]);
            S.due("36 new, " + what, ManyNames::new, x -> x.count(asked), what == 10 ? -4 : 0);
        }
    }

    /** "BAD." */
    private static void countsToRefuse() {
        for (int what : Place.outside(0, 10)) {
            S.due("36 what " + what, ManyNames::new, x -> x.count(what), -1);
            S.due("36 what " + what, Place::some, x -> x.count(what), -1);
            S.due("36 what " + what, Place::full, x -> x.count(what), -1);
        }
    }

    /** "10 CELLS of SHEET 0 (NONE: nothing)" */
    private static void cellsOfSheetNought() {
        ManyNames x = new ManyNames();
        for (int k = 1; k < 4; k++) {
            x.sheet(k, 0, 48);
            C.due("36 nothing", x.count(10), -4);
        }
        x.sheet(0, 0, -1);
        C.due("36 nothing", x.count(10), -4);
        x.sheet(0, 0, 49);
        C.due("36 nothing", x.count(10), -4);
        for (int n = 0; n <= 48; n++) {
            x.sheet(0, n % 3, n);
            C.due("36 cells", x.count(10), n);
        }
    }
}
