/** Promises 16 to 20: each sentence of the document that names an edge has a test here, with its words ahead of it. */
public final class TrustEdgesTest {
    private static final Check C = new Check();
    private static final Still S = new Still(C);

    public static void main(String[] args) {
        whoIsTrusted();
        noMoreThanItsRoom();
        bothWays();
        theMostThatCanCome();
        turnedTwice();
        whereNothingComes();
        theGreatestTrust();
        heapsToTake();
        heapsToRefuse();
        heapOfNone();
        cutsToRefuse();
        cutOfAll();
        cutThatIsLeast();
        cutWithoutTheUnreached();
        cutWhereNothingComes();
        cutOfTwentyFourTies();
        cutAddsUp();
        lowOfNone();
        lowOfSeveral();
        lowToRefuse();
        twinsOfNoTwo();
        twinsThatHaveNoLess();
        twinsOfSeveral();
        twinsToRefuse();
        C.finish();
    }

    /** "TRUST of a NAME. BAD." */
    private static void whoIsTrusted() {
        for (int a : Place.outside(0, 5)) {
            S.due("16 no name " + a, Place::some, x -> x.trust(a), -1);
        }
        S.due("16 no name yet", ManyNames::new, x -> x.trust(0), -1);
        S.due("16 the 13th", Place::full, x -> x.trust(12), -1);
        S.due("16 the first", Place::some, x -> x.trust(0), 102);
        S.due("16 the last", Place::some, x -> x.trust(5), 7);
        S.due("16 made, the last of twelve", Place::full, x -> x.trust(11), 0);
    }

    /** "each no more than its ROOM" */
    private static void noMoreThanItsRoom() {
        ManyNames x = Place.withNames(0, 0, 0);
        x.seed(0, true);
        x.tie(0, 1, 99, 0);
        C.due("16 one less than is given", x.trust(1), 99);
        x.tie(0, 1, 1, 0);
        C.due("16 as much as is given", x.trust(1), 100);
        x.tie(0, 1, 1, 0);
        C.due("16 no more than is given", x.trust(1), 100);
        x.tie(1, 2, 1, 0);
        C.due("16 the least room", x.trust(2), 1);
        x.tie(1, 2, 999, 3);
        C.due("16 a tie without room adds nothing", x.trust(2), 1);
        Place.tell(x, "seed 1;");
        C.due("16 the least that is given", x.trust(0), 1);
        C.due("16 the least that is given", x.trust(2), 1);
        Place.tell(x, "seed 999;");
        C.due("16 the most that is given", x.trust(0), 999);
        C.due("16 through all ties", x.trust(1), 101);
    }

    /** "along TIES, both ways" */
    private static void bothWays() {
        ManyNames x = Place.withNames(0, 0, 0);
        x.tie(0, 1, 5, 2);
        x.tie(2, 1, 9, 2);
        x.pledge(0, 999);
        C.due("16 from the first end", x.trust(1), 2);
        C.due("16 and then from the second", x.trust(2), 2);
        ManyNames y = Place.withNames(0, 0);
        y.pledge(0, 40);
        y.pledge(1, 60);
        y.tie(0, 1, 5, 0);
        C.due("16 its own and what comes", y.trust(0), 9);
        C.due("16 its own and all of the other one", y.trust(1), 10);
        C.due("17 both", y.heap(3), 10);
    }

    /** "the most that can come to it alone": what went a shorter way first is turned about for it. */
    private static void theMostThatCanCome() {
        ManyNames x = Place.withNames(0, 0, 0, 0, 0, 0, 0);
        Place.tell(x, "pledge 100;");
        x.pledge(0, 1);
        x.pledge(3, 3);
        x.tie(0, 1, 1, 0);
        x.tie(1, 2, 1, 0);
        ways(x, 3, 3, 4, 1);
        ways(x, 3, 0, 5, 6, 2);
        // 0-1-2 is the shortest way, but then 1 must give to 0: twice the room of their tie is turned.
        C.due("16 3-4-1-2, 3-4-1-0-5-6-2, 0-5-6-2", x.trust(2), 3);
        C.due("18 the ties of 1", x.cut(4, 1), 3);
        C.due("18 what 0 is given", x.cut(4, 2), 1);
    }

    /** A tie that was turned about is turned again: by the ways that are the shortest one after the other. */
    private static void turnedTwice() {
        ManyNames x = Place.withNames(0, 0, 0, 0, 0, 0, 0, 0, 0, 0, 0);
        Place.tell(x, "pledge 100;");
        x.pledge(0, 1);
        x.pledge(3, 2);
        x.pledge(5, 1);
        x.tie(0, 1, 1, 0);
        x.tie(1, 4, 1, 0);
        ways(x, 2, 3, 1);
        ways(x, 2, 0, 2, 4);
        ways(x, 1, 5, 6, 7, 0);
        ways(x, 1, 1, 8, 9, 10, 4);
        C.due("16 all that is given", x.trust(4), 4);
    }

    /** Ties of this room from each one to the next. */
    private static void ways(ManyNames x, int room, int... names) {
        for (int i = 1; i < names.length; i++) {
            x.tie(names[i - 1], names[i], room, 0);
        }
    }

    private static void whereNothingComes() {
        ManyNames x = Place.withNames(0, 0);
        x.tie(0, 1, 999, 0);
        C.due("16 nothing is given", x.trust(0), 0);
        x.pledge(0, 9);
        C.due("16 0.9 is nothing", x.trust(1), 0);
        x.pledge(0, 1);
        C.due("16 1", x.trust(1), 1);
        Place.tell(x, "met 0;");
        C.due("16 no room of that kind", x.trust(1), 0);
        C.due("16 its own", x.trust(0), 1);
        Place.tell(x, "pledge 0;");
        C.due("16 no room of coins", x.trust(0), 0);
    }

    /** Sums far above the bound of one room. */
    private static void theGreatestTrust() {
        ManyNames x = Place.withNames(0, 0, 0, 0, 0, 0, 0, 0, 0, 0, 0, 0);
        Place.tell(x, "seed 999;");
        for (int a = 0; a < 12; a++) {
            x.seed(a, true);
        }
        for (int t = 0; t < 24; t++) {
            x.tie(t % 11, 11, 999, 0);
        }
        C.due("16 from all", x.trust(11), 12 * 999);
        C.due("17 all", x.heap(4095), 12 * 999);
        C.due("17 all but one", x.heap(4094), 12 * 999);
        ManyNames y = Place.withNames(0, 0);
        Place.tell(y, "pledge 100; seed 999;");
        for (int i = 0; i < 24; i++) {
            y.pledge(0, 999);
            y.tie(0, 1, 999, 0);
        }
        C.due("16 24 ties side by side", y.trust(1), 24 * 999);
        y.seed(0, true);
        C.due("16 no more", y.trust(1), 24 * 999);
    }

    /** "TRUST of a HEAP (bits; ..)" */
    private static void heapsToTake() {
        ManyNames x = new ManyNames();
        for (int n = 0; n <= 12; n++) {
            C.due("17 all of " + n, x.heap((1 << n) - 1), n);
            C.due("17 beyond " + n, x.heap(1 << n), -1);
            C.due("18 beyond " + n, x.cut(1 << n, 0), -1);
            if (n > 0) {
                C.due("17 the last of " + n, x.heap(1 << n - 1), 1);
                C.due("18 all of " + n, x.cut((1 << n) - 1, 2), n);
            }
            x.name(0);
            x.pledge(n, 10);
        }
    }

    /** "BAD." */
    private static void heapsToRefuse() {
        for (int names : Place.outside(0, 63)) {
            S.due("17 heap " + names, Place::some, x -> x.heap(names), -1);
        }
        for (int names : Place.outside(0, 4095)) {
            S.due("17 heap " + names, Place::full, x -> x.heap(names), -1);
        }
        for (int bit = 6; bit < 32; bit++) {
            int names = 1 << bit | 1;
            S.due("17 a bit of no name " + bit, Place::some, x -> x.heap(names), -1);
        }
        S.due("17 none yet", ManyNames::new, x -> x.heap(1), -1);
    }

    /** "(bits; 0: nothing comes)" */
    private static void heapOfNone() {
        S.due("17 of none, new", ManyNames::new, x -> x.heap(0), 0);
        S.due("17 of none", Place::some, x -> x.heap(0), 0);
        S.due("17 of none", Place::full, x -> x.heap(0), 0);
    }

    /** "BAD: also a HEAP of none." */
    private static void cutsToRefuse() {
        for (int what = 0; what < 3; what++) {
            int asked = what;
            S.due("18 of none, new, " + what, ManyNames::new, x -> x.cut(0, asked), -1);
            S.due("18 of none, " + what, Place::some, x -> x.cut(0, asked), -1);
            for (int names : Place.outside(0, 63)) {
                S.due("18 heap " + names + ", " + what, Place::some, x -> x.cut(names, asked), -1);
            }
            S.due("18 heap of the 13th, " + what, Place::full, x -> x.cut(4096, asked), -1);
        }
        for (int what : Place.outside(0, 2)) {
            S.due("18 what " + what, Place::some, x -> x.cut(1, what), -1);
            S.due("18 what " + what, Place::full, x -> x.cut(4095, what), -1);
        }
    }

    /** "without any of the HEAP" */
    private static void cutOfAll() {
        S.due("18 of all: no names", Place::some, x -> x.cut(63, 0), 0);
        S.due("18 of all: no ties", Place::some, x -> x.cut(63, 1), 0);
        S.due("18 of all: all that is given", Place::some, x -> x.cut(63, 2), 102);
        S.due("18 of all but one", Place::some, x -> x.cut(62, 0), 1);
        S.due("18 of all but one", Place::some, x -> x.cut(62, 1), 1 | 16 | 32);
        S.due("18 of all but one", Place::some, x -> x.cut(62, 2), 2);
    }

    /** "the least set (the one that is within all of these)" */
    private static void cutThatIsLeast() {
        ManyNames x = Place.withNames(0, 0, 0, 0);
        Place.tell(x, "seed 7;");
        x.seed(0, true);
        x.tie(0, 1, 7, 0);
        x.tie(1, 2, 7, 0);
        x.tie(2, 3, 7, 0);
        C.due("18 the source alone: its way out is as thin", x.cut(8, 0), 0);
        C.due("18 no ties of it", x.cut(8, 1), 0);
        C.due("18 what is given", x.cut(8, 2), 7);
        Place.tell(x, "seed 8;");
        C.due("18 with the seed", x.cut(8, 0), 1);
        C.due("18 the tie behind it", x.cut(8, 1), 1);
        C.due("18 nothing beyond", x.cut(8, 2), 0);
        x.tie(1, 0, 1, 0);
        C.due("18 with the next: 8 are given, 8 go through", x.cut(8, 0), 3);
        C.due("18 the tie behind it", x.cut(8, 1), 2);
        x.tie(1, 2, 1, 0);
        C.due("18 with the one behind", x.cut(8, 0), 7);
        x.tie(3, 2, 1, 0);
        C.due("18 the source alone again", x.cut(8, 0), 0);
        C.due("18 what is given", x.cut(8, 2), 8);
    }

    /** "the least set": a name to which nothing comes is not of it, whichever it is. */
    private static void cutWithoutTheUnreached() {
        for (int apart = 0; apart < 12; apart++) {
            ManyNames x = Place.withNames(0, 0, 0, 0, 0, 0, 0, 0, 0, 0, 0, 0);
            int seed = (apart + 1) % 12;
            int end = (apart + 2) % 12;
            x.seed(seed, true);
            x.tie(seed, end, 5, 0);
            x.tie(apart, end, 9, 0);
            C.due("18 of it, without " + apart, x.cut(1 << end, 0), 1 << seed);
            C.due("18 its ties, without " + apart, x.cut(1 << end, 1), 1);
            C.due("18 where nothing comes, without " + apart, x.cut(1 << (apart + 3) % 12, 0),
                1 << seed | 1 << end | 1 << apart);
        }
    }

    /** "whose way out has no more ROOM than TRUST of the HEAP": of none, if nothing comes. */
    private static void cutWhereNothingComes() {
        ManyNames x = Place.withNames(0, 0, 0, 0);
        x.seed(0, true);
        x.tie(0, 1, 5, 0);
        x.tie(2, 3, 5, 0);
        C.due("17 nothing comes", x.heap(12), 0);
        C.due("18 all that it reaches", x.cut(12, 0), 3);
        C.due("18 no ties", x.cut(12, 1), 0);
        C.due("18 nothing beyond", x.cut(12, 2), 0);
        x.tie(1, 2, 999, 3);
        C.due("18 a tie without room leads nowhere", x.cut(12, 1), 0);
        ManyNames y = Place.withNames(0, 0);
        y.tie(0, 1, 5, 0);
        for (int what = 0; what < 3; what++) {
            C.due("18 nothing is given, " + what, y.cut(1, what), 0);
        }
        y.seed(0, true);
        y.made(1);
        C.due("18 of a made one", y.cut(2, 0), 1);
        C.due("18 of a made one: its ties have no room", y.cut(2, 1), 0);
    }

    /** "TIES that lead out of it (bits)": all that there can be. */
    private static void cutOfTwentyFourTies() {
        ManyNames x = Place.withNames(0, 0, 0);
        Place.tell(x, "seed 999;");
        x.seed(0, true);
        for (int t = 0; t < 24; t++) {
            x.tie(t % 2 == 0 ? 0 : 1, t % 2 == 0 ? 1 : 0, 1, 0);
        }
        C.due("18 all 24, told either way", x.cut(2, 1), (1 << 24) - 1);
        C.due("18 of it", x.cut(2, 0), 1);
        C.due("17 24", x.heap(2), 24);
        x.made(1);
        C.due("18 none has room", x.cut(2, 1), 0);
    }

    /** What leads out of THE CUT is as much as TRUST of the HEAP. */
    private static void cutAddsUp() {
        for (int names = 1; names < 64; names++) {
            ManyNames x = Place.some();
            int inside = x.cut(names, 0);
            int out = x.cut(names, 1);
            int sum = x.cut(names, 2);
            for (int t = 0; t < 6; t++) {
                sum += (out >> t & 1) * x.tieOf(t, 5);
            }
            C.due("18 the way out for " + names, sum, x.heap(names));
            C.due("18 none of the heap within, " + names, inside & names, 0);
        }
    }

    /** "NONE": there is none that is neither a seed nor made. */
    private static void lowOfNone() {
        for (int what = 0; what < 2; what++) {
            int asked = what;
            S.due("19 no names", ManyNames::new, x -> x.low(asked), -4);
            ManyNames x = Place.withNames(0, 0);
            x.seed(0, true);
            C.due("19 one that is no seed", x.low(0), 1);
            x.made(1);
            C.due("19 a seed and a made one", x.low(what), -4);
            x.seed(0, false);
            C.due("19 one that is no seed any more", x.low(what), 0);
            x.seed(0, true);
            x.made(0);
            C.due("19 a seed that is made", x.low(what), -4);
            x.seed(0, false);
            C.due("19 made, no seed", x.low(what), -4);
        }
    }

    /** "of several the least" */
    private static void lowOfSeveral() {
        ManyNames x = Place.withNames(0, 0, 0, 0, 0, 0, 0, 0, 0, 0, 0, 0);
        C.due("19 all have nothing", x.low(0), 0);
        C.due("19 all have nothing", x.low(1), 0);
        for (int a = 0; a < 12; a++) {
            C.due("19 the first of those that have nothing", x.low(0), a);
            x.pledge(a, a == 11 ? 10 : 20);
        }
        C.due("19 the last of all", x.low(0), 11);
        C.due("19 its trust", x.low(1), 1);
        x.pledge(11, 10);
        C.due("19 all have as much", x.low(0), 0);
        C.due("19 all have as much", x.low(1), 2);
        x.seed(0, true);
        C.due("19 but the seed", x.low(0), 1);
        x.made(1);
        C.due("19 but the made one", x.low(0), 2);
    }

    /** "BAD; NONE.": BAD ahead of NONE. */
    private static void lowToRefuse() {
        for (int what : Place.outside(0, 1)) {
            S.due("19 what " + what + ", new", ManyNames::new, x -> x.low(what), -1);
            S.due("19 what " + what, Place::some, x -> x.low(what), -1);
        }
        S.due("19 the lowest", Place::some, x -> x.low(0), 4);
        S.due("19 its trust", Place::some, x -> x.low(1), 1);
    }

    /** "NONE: there are no two, .." */
    private static void twinsOfNoTwo() {
        for (int what = 0; what < 2; what++) {
            int asked = what;
            S.due("20 no names", ManyNames::new, x -> x.twins(asked), -4);
            ManyNames x = Place.withNames(0, 0, 0);
            x.seed(0, true);
            x.tie(0, 1, 5, 0);
            x.tie(1, 2, 5, 0);
            C.due("20 two", x.twins(what), what == 0 ? 18 : 5);
            x.seed(2, true);
            C.due("20 one alone, two seeds", x.twins(what), -4);
            x.seed(2, false);
            x.made(2);
            C.due("20 one alone, a seed, a made one", x.twins(what), -4);
            C.due("20 one name", Place.withNames(0).twins(what), -4);
        }
    }

    /** ".. or none have less" */
    private static void twinsThatHaveNoLess() {
        ManyNames x = Place.withNames(0, 0, 0);
        x.seed(0, true);
        x.tie(0, 1, 50, 0);
        x.tie(0, 2, 50, 0);
        C.due("20 50 and 50 of 100", x.twins(0), -4);
        C.due("20 50 and 50 of 100", x.twins(1), -4);
        x.tie(0, 1, 1, 0);
        C.due("20 51 and 50 of 100", x.twins(0), 18);
        C.due("20 one less", x.twins(1), 1);
        Place.tell(x, "seed 101;");
        C.due("20 51 and 50 of 101", x.twins(0), -4);
        C.due("20 51 and 50 of 101", x.twins(1), -4);
    }

    /** "16 times the less and the greater one, of several the least" */
    private static void twinsOfSeveral() {
        ManyNames x = Place.withNames(0, 0, 0, 0, 0, 0, 0, 0, 0, 0, 0, 0);
        x.pledge(10, 100);
        x.tie(11, 10, 3, 0);
        C.due("20 the last two", x.twins(0), 16 * 10 + 11);
        C.due("20 three less", x.twins(1), 3);
        x.pledge(1, 100);
        x.tie(1, 11, 3, 0);
        // 1 has 13, 10 has 13, 11 has 6; together 1 and 10 have 20, 1 and 11 have 13, 10 and 11 have 13.
        C.due("20 of three pairs the least", x.twins(0), 16 + 10);
        C.due("20 six less", x.twins(1), 6);
        x.pledge(0, 100);
        x.tie(0, 11, 3, 0);
        // 0, 1, 10 have 13 each, 11 has 9; two of them have 23 of 26, one with 11 has 16 of 22.
        C.due("20 the least with the last", x.twins(0), 11);
        C.due("20 six less", x.twins(1), 6);
        x.seed(0, true);
        C.due("20 no seed", x.twins(0), 16 + 11);
        x.made(1);
        C.due("20 no made one", x.twins(0), 16 * 10 + 11);
    }

    /** "BAD; NONE": BAD ahead of NONE. */
    private static void twinsToRefuse() {
        for (int what : Place.outside(0, 1)) {
            S.due("20 what " + what + ", new", ManyNames::new, x -> x.twins(what), -1);
            S.due("20 what " + what, Place::some, x -> x.twins(what), -1);
        }
        S.due("20 1 and 2 have 28 and 7 of 28", Place::some, x -> x.twins(0), 18);
        S.due("20 seven less", Place::some, x -> x.twins(1), 7);
    }
}
