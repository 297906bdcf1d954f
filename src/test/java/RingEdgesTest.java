/** Promises 27 to 31: each sentence of the document that names an edge has a test here, with its words ahead of it. */
public final class RingEdgesTest {
    private static final Check C = new Check();
    private static final Still S = new Still(C);
    private static final int NO = -1000000;

    public static void main(String[] args) {
        ringsToRefuse();
        ringsOfFew();
        allWordsAreCounted();
        goodOrBetter();
        oddsToRefuse();
        oddsThatAreSure();
        oddsOfHOrMore();
        oddsOfTwentyFour();
        oddestToRefuse();
        oddestOfNone();
        oddestBelowOne();
        oddestOfThreeOrFour();
        oddestOfSeveral();
        gainsToTake();
        gainsToRefuse();
        gainsOfThoseThatSellNone();
        gainsOfRoomsDividedDown();
        gainsAreNotKept();
        gainsOfTheGreatest();
        bestToRefuse();
        bestOfEight();
        bestOfNone();
        bestOfSeveral();
        C.finish();
    }

    /** "RING of a HEAP: 0 n, 1 m, 2 g, 3 h. BAD." */
    private static void ringsToRefuse() {
        for (int what = 0; what < 4; what++) {
            int asked = what;
            for (int names : Place.outside(0, 63)) {
                S.due("27 heap " + names + ", " + what, Place::some, x -> x.ring(names, asked), -1);
            }
            S.due("27 heap of the 13th, " + what, Place::full, x -> x.ring(4096, asked), -1);
            S.due("27 none yet, " + what, ManyNames::new, x -> x.ring(1, asked), -1);
        }
        for (int what : Place.outside(0, 3)) {
            S.due("27 what " + what, Place::some, x -> x.ring(1, what), -1);
            S.due("27 what " + what + " of none", ManyNames::new, x -> x.ring(0, what), -1);
        }
    }

    private static void ring(ManyNames x, int names, int... due) {
        for (int what = 0; what < 4; what++) {
            C.due("27 ring(" + names + "," + what + ")", x.ring(names, what), due[what]);
        }
    }

    /** "those between two of it": a HEAP of none, of one, of all. */
    private static void ringsOfFew() {
        ring(new ManyNames(), 0, 0, 0, 0, 0);
        ManyNames x = Place.some();
        ring(x, 0, 5, 0, 3, 0);
        for (int a = 0; a < 6; a++) {
            ring(x, 1 << a, 5, 0, 3, 0);
        }
        ring(x, 3, 5, 1, 3, 1);
        ring(x, 6, 5, 1, 3, 1);
        ring(x, 7, 5, 3, 3, 3);
        ring(x, 16 | 2, 5, 1, 3, 0);
        ring(x, 63, 5, 5, 3, 3);
        ManyNames y = Place.full();
        ring(y, 4095, 24, 24, 6, 6);
        ring(y, 0, 24, 0, 6, 0);
    }

    /** "of all WORDS (n)": also those that do not COUNT and those of MADE ones. */
    private static void allWordsAreCounted() {
        ManyNames x = Place.withNames(0, 0);
        for (int w = 1; w <= 24; w++) {
            x.word(0, 1, 7, 10);
            ring(x, 3, w, w, w, w);
        }
        C.due("36 one counts", x.count(7), 1);
        x.made(0);
        x.made(1);
        ring(x, 3, 24, 24, 24, 24);
    }

    /** "those that are good or better" and "good: a mark (1 to 10)" */
    private static void goodOrBetter() {
        ManyNames x = Place.withNames(0, 0);
        for (int mark = 0; mark <= 10; mark++) {
            x.word(0, 1, mark, mark);
        }
        C.due("27 8, 9, 10", x.ring(3, 2), 3);
        for (int good = 1; good <= 10; good++) {
            Place.tell(x, "good " + good + ";");
            C.due("27 good " + good, x.ring(3, 2), 11 - good);
            C.due("27 good " + good + " between the two", x.ring(3, 3), 11 - good);
            C.due("27 good " + good + " between none", x.ring(1, 3), 0);
        }
    }

    /** "ODDS of a HEAP: 0 the numerator, 1 the denominator. BAD." */
    private static void oddsToRefuse() {
        for (int what = 0; what < 2; what++) {
            int asked = what;
            for (int names : Place.outside(0, 63)) {
                S.due("28 heap " + names + ", " + what, Place::some, x -> x.odds(names, asked), -1);
            }
            S.due("28 heap of the 13th, " + what, Place::full, x -> x.odds(4096, asked), -1);
            S.due("28 none yet, " + what, ManyNames::new, x -> x.odds(1, asked), -1);
        }
        for (int what : Place.outside(0, 1)) {
            S.due("28 what " + what, Place::some, x -> x.odds(1, what), -1);
            S.due("28 what " + what + " of none", ManyNames::new, x -> x.odds(0, what), -1);
        }
    }

    private static void odds(ManyNames x, int names, long top, long bottom) {
        C.due("28 numerator of " + names, x.odds(names, 0), top);
        C.due("28 denominator of " + names, x.odds(names, 1), bottom);
    }

    /** No WORDS, none within, all within, none good, all good: 1 by 1. */
    private static void oddsThatAreSure() {
        odds(new ManyNames(), 0, 1, 1);
        ManyNames x = Place.withNames(0, 0, 0, 0);
        odds(x, 15, 1, 1);
        x.word(0, 1, 1, 0);
        odds(x, 0, 1, 1);
        odds(x, 3, 1, 1);
        x.word(2, 3, 2, 0);
        odds(x, 3, 1, 1);
        x.word(2, 3, 3, 10);
        odds(x, 3, 1, 1);
        odds(x, 15, 1, 1);
        odds(x, 5, 1, 1);
        ManyNames y = Place.withNames(0, 0, 0, 0);
        y.word(0, 1, 1, 10);
        y.word(2, 3, 2, 10);
        odds(y, 3, 1, 1);
        S.due("28 asking changes nothing", Place::some, z -> z.odds(63, 0), 1);
        S.due("28 asking changes nothing", Place::some, z -> z.odds(63, 1), 1);
    }

    /** "the share of those in which h or more of the m are", "in lowest terms" */
    private static void oddsOfHOrMore() {
        for (int h = 0; h <= 3; h++) {
            ManyNames x = Place.withNames(0, 0, 0, 0);
            for (int w = 0; w < 3; w++) {
                x.word(0, 1, w, w < h ? 8 : 7);
                x.word(2, 3, 10 + w, w < 3 - h ? 8 : 7);
            }
            // Of 20 ways: 1, 9, 9, 1 with none, one, two, three of the three.
            long[] top = {1, 19, 1, 1};
            long[] bottom = {1, 20, 2, 20};
            odds(x, 3, top[h], bottom[h]);
        }
        ManyNames y = Place.withNames(0, 0, 0);
        y.word(0, 1, 1, 8);
        y.word(0, 2, 2, 7);
        odds(y, 3, 1, 2);
        odds(y, 5, 1, 1);
    }

    /** All 24 WORDS, one half within and good: one way of all, and all but one. */
    private static void oddsOfTwentyFour() {
        ManyNames x = Place.withNames(0, 0, 0, 0);
        for (int w = 0; w < 12; w++) {
            x.word(0, 1, w, 10);
            x.word(2, 3, 50 + w, 0);
        }
        odds(x, 3, 1, 2704156);
        odds(x, 12, 1, 1);
        odds(x, 15, 1, 1);
        ManyNames y = Place.withNames(0, 0, 0, 0);
        for (int w = 0; w < 12; w++) {
            y.word(0, 1, w, w == 0 ? 10 : 0);
            y.word(2, 3, 50 + w, w == 0 ? 0 : 10);
        }
        odds(y, 3, 2704155, 2704156);
        // 11 of 12 good, or all: 12 * 12 + 1 ways.
        odds(y, 12, 145, 2704156);
    }

    /** "BAD; NONE: none.": BAD ahead of NONE. */
    private static void oddestToRefuse() {
        for (int what : Place.outside(0, 2)) {
            S.due("29 what " + what + ", new", ManyNames::new, x -> x.oddest(what), -1);
            S.due("29 what " + what, Place::some, x -> x.oddest(what), -1);
        }
        // 0, 1 and 2: three words of five, all of the three good ones: one way of ten.
        S.due("29 bits", Place::some, x -> x.oddest(0), 7);
        S.due("29 numerator", Place::some, x -> x.oddest(1), 1);
        S.due("29 denominator", Place::some, x -> x.oddest(2), 10);
    }

    private static void oddest(String why, ManyNames x, long bits, long top, long bottom) {
        C.due("29 " + why + ": bits", x.oddest(0), bits);
        C.due("29 " + why + ": numerator", x.oddest(1), top);
        C.due("29 " + why + ": denominator", x.oddest(2), bottom);
    }

    private static void oddestOfNone() {
        oddest("no names", new ManyNames(), -4, -4, -4);
        ManyNames x = Place.withNames(0, 0);
        x.word(0, 1, 1, 10);
        x.word(1, 0, 2, 0);
        oddest("no three names", x, -4, -4, -4);
        x.name(0);
        oddest("three names that have all words", x, -4, -4, -4);
        x.name(0);
        oddest("four names, all words within 0 and 1", x, -4, -4, -4);
        x.word(2, 3, 3, 0);
        oddest("one word elsewhere", x, 7, 2, 3);
        ManyNames y = Place.withNames(0, 0, 0);
        y.word(0, 1, 1, 10);
        y.word(1, 2, 2, 0);
        oddest("0 and 1 would do, but not with one that is no name", y, -4, -4, -4);
        y.name(0);
        oddest("now it is one", y, 11, 1, 2);
        oddest("no words", Place.withNames(0, 0, 0, 0), -4, -4, -4);
    }

    /** "the least ODDS (below 1)" */
    private static void oddestBelowOne() {
        ManyNames x = Place.withNames(0, 0, 0, 0, 0);
        x.word(0, 1, 1, 10);
        x.word(2, 3, 2, 10);
        x.word(3, 4, 3, 10);
        oddest("all are good", x, -4, -4, -4);
        x = Place.withNames(0, 0, 0, 0, 0);
        x.word(0, 1, 1, 0);
        x.word(2, 3, 2, 0);
        oddest("none is good", x, -4, -4, -4);
        x.word(3, 4, 3, 10);
        oddest("one of three", x, 25, 1, 3);
    }

    /** "Of all HEAPS of three or four NAMES" */
    private static void oddestOfThreeOrFour() {
        ManyNames x = Place.withNames(0, 0, 0, 0, 0, 0, 0, 0, 0, 0, 0, 0);
        x.word(8, 9, 1, 10);
        x.word(10, 11, 2, 10);
        x.word(0, 1, 3, 0);
        x.word(2, 3, 4, 0);
        oddest("the last four", x, 0xf00, 1, 6);
        x.made(8);
        oddest("made ones too", x, 0xf00, 1, 6);
        ManyNames y = Place.withNames(0, 0, 0, 0, 0, 0, 0, 0, 0, 0, 0, 0);
        y.word(9, 10, 1, 10);
        y.word(10, 11, 2, 10);
        y.word(0, 1, 3, 0);
        y.word(2, 3, 4, 0);
        oddest("the last three", y, 0xe00, 1, 6);
        ManyNames two = Place.withNames(0, 0, 0, 0);
        two.word(0, 1, 1, 10);
        two.word(2, 3, 2, 0);
        oddest("two would do, three are asked for", two, 7, 1, 2);
        ManyNames five = Place.withNames(0, 0, 0, 0, 0, 0, 0);
        five.word(0, 1, 1, 10);
        five.word(2, 3, 2, 10);
        five.word(3, 4, 3, 10);
        five.word(5, 6, 4, 0);
        five.word(6, 5, 5, 0);
        // 0 to 4 have three good ones of three, one way of ten; four of them have two: 3 of 10.
        oddest("five would be odder, four are asked for", five, 15, 3, 10);
    }

    /** "of several the least bits" */
    private static void oddestOfSeveral() {
        ManyNames x = Place.withNames(0, 0, 0, 0, 0, 0);
        x.word(4, 5, 1, 10);
        x.word(0, 1, 2, 0);
        // With any one or two more it is as odd: 0 with 4 and 5 has the least bits.
        oddest("of many", x, 49, 1, 2);
        x.word(2, 3, 3, 10);
        // 4 and 5 with 0, 2 and 3 with 0, each have one of three words, good in 2 of 3 ways; all four both: 1 of 3.
        oddest("the one heap of both", x, 60, 1, 3);
        x.word(0, 1, 4, 0);
        x.word(4, 5, 5, 0);
        x.word(2, 3, 6, 0);
        // Two of six are good: 0 and 1 aside all four words, both good: 6 of 15 ways.
        oddest("of them all", x, 60, 2, 5);
    }

    /** "GAIN of THE CHEAT by a set (bits) with a ROOM (1 to 999) and a value (0 to 99)." */
    private static void gainsToTake() {
        ManyNames x = Place.withNames(999, 1);
        Place.tell(x, "bought 100; seed 999;");
        x.seed(0, true);
        x.pledge(1, 999);
        C.due("30 the least room and value", x.gain(1, 1, 0), -999);
        C.due("30 the least room", x.gain(1, 1, 1), -998);
        C.due("30 the last room", x.gain(1, 999, 1), 0);
        C.due("30 the last value", x.gain(1, 999, 99), 99 * 999 - 999);
        C.due("30 the other one", x.gain(2, 999, 99), 99 * 99 - 1);
        C.due("30 both", x.gain(3, 999, 99), 99 * 1098 - 1000);
        C.due("30 none", x.gain(0, 999, 99), 0);
        S.due("30 none, new", ManyNames::new, y -> y.gain(0, 1, 0), 0);
        S.due("30 of some", Place::some, y -> y.gain(1, 100, 1), 37);
        S.due("30 of some", Place::some, y -> y.gain(1 | 4 | 16 | 32, 100, 2), 2 * (40 + 7 + 1 + 7) - 24);
    }

    /** "BAD -1000000" */
    private static void gainsToRefuse() {
        for (int names : Place.outside(0, 63)) {
            S.due("30 set " + names, Place::some, x -> x.gain(names, 40, 1), NO);
        }
        S.due("30 none yet", ManyNames::new, x -> x.gain(1, 40, 1), NO);
        S.due("30 the 13th", Place::full, x -> x.gain(4096, 40, 1), NO);
        for (int room : Place.outside(1, 999)) {
            S.due("30 room " + room, Place::some, x -> x.gain(1, room, 1), NO);
            S.due("30 room " + room + " of none", Place::some, x -> x.gain(0, room, 1), NO);
        }
        for (int value : Place.outside(0, 99)) {
            S.due("30 value " + value, Place::some, x -> x.gain(1, 40, value), NO);
            S.due("30 value " + value + " of none", Place::some, x -> x.gain(0, 40, value), NO);
        }
    }

    /** "also a NAME of it that sells none or is MADE" */
    private static void gainsOfThoseThatSellNone() {
        S.due("30 sells none", Place::some, x -> x.gain(2, 40, 1), NO);
        S.due("30 one of two sells none", Place::some, x -> x.gain(3, 40, 1), NO);
        S.due("30 made, sells none", Place::some, x -> x.gain(8, 40, 1), NO);
        S.due("30 made, with a price", Place::full, x -> x.gain(1 << 11, 40, 1), NO);
        S.due("30 one of twelve is made", Place::full, x -> x.gain(4095, 40, 1), NO);
        ManyNames x = Place.full();
        C.due("30 all that are not made: nothing is bought", x.gain(2047, 999, 0), -66);
    }

    /** "each with a told ROOM times bought by 100, divided down" */
    private static void gainsOfRoomsDividedDown() {
        ManyNames x = Place.withNames(1, 1);
        x.seed(0, true);
        x.seed(1, true);
        C.due("30 bought 0", x.gain(1, 999, 1), -1);
        Place.tell(x, "bought 1;");
        C.due("30 0.99", x.gain(1, 99, 1), -1);
        C.due("30 1.00", x.gain(1, 100, 1), 0);
        C.due("30 1.99", x.gain(1, 199, 1), 0);
        C.due("30 1.99 and 1.99: each is divided down", x.gain(3, 199, 1), 0);
        C.due("30 9.99", x.gain(1, 999, 1), 8);
        Place.tell(x, "bought 100;");
        C.due("30 all", x.gain(1, 99, 1), 98);
        C.due("30 no more than is given", x.gain(1, 101, 1), 99);
    }

    /** The new name is no NAME, its TIES are no TIES: where all is full it can buy all the same, and nothing is kept. */
    private static void gainsAreNotKept() {
        S.due("30 where all is full", Place::full, x -> x.gain(1, 999, 0), -1);
        S.due("30 where all is full", Place::full, x -> x.gain(1, 999, 99), -1);
        S.due("31 of some, set", Place::some, x -> x.best(100, 1, 1), 5);
        ManyNames x = Place.withNames(1, 1);
        Place.tell(x, "bought 100;");
        x.seed(0, true);
        C.due("30 the one that has nothing", x.gain(2, 50, 1), -1);
        C.due("30 the seed", x.gain(1, 50, 1), 49);
        C.due("30 again: no tie was kept", x.gain(2, 50, 1), -1);
        C.due("31 no tie was kept", x.best(50, 1, 1), 1);
        C.due("30 no tie was kept", x.gain(2, 50, 1), -1);
        C.due("16 nothing comes through it", x.trust(1), 0);
    }

    /** The greatest and the least GAIN there can be stay far from BAD's -1000000. */
    private static void gainsOfTheGreatest() {
        ManyNames x = Place.withNames(999, 999, 999, 999, 999, 999, 999, 999, 999, 999, 999, 999);
        C.due("30 all prices, nothing comes", x.gain(4095, 999, 99), -12 * 999);
        Place.tell(x, "bought 100; pledge 100;");
        for (int a = 0; a < 12; a++) {
            x.pledge(a, 999);
        }
        C.due("30 all", x.gain(4095, 999, 99), 98 * 12 * 999);
    }

    /** "BAD; STATE": BAD ahead of STATE. */
    private static void bestToRefuse() {
        for (int what = 0; what < 2; what++) {
            int asked = what;
            for (int room : Place.outside(1, 999)) {
                S.due("31 room " + room, Place::some, x -> x.best(room, 1, asked), -1);
                S.due("31 room " + room + ", full", Place::full, x -> x.best(room, 1, asked), -1);
            }
            for (int value : Place.outside(0, 99)) {
                S.due("31 value " + value, Place::some, x -> x.best(1, value, asked), -1);
                S.due("31 value " + value + ", full", Place::full, x -> x.best(1, value, asked), -1);
            }
            S.due("31 eleven sell", Place::full, x -> x.best(1, 1, asked), -2);
            S.due("31 none yet", ManyNames::new, x -> x.best(1, 1, asked), 0);
        }
        for (int what : Place.outside(0, 1)) {
            S.due("31 what " + what, Place::some, x -> x.best(1, 1, what), -1);
            S.due("31 what " + what + ", full", Place::full, x -> x.best(1, 1, what), -1);
        }
        C.due("31 the last room and value", Place.some().best(999, 99, 1), 1);
        C.due("31 the last room and value", Place.some().best(999, 99, 0), 99 * 102 - 3);
    }

    /** "STATE: more than 8 NAMES that are not MADE have a price" */
    private static void bestOfEight() {
        ManyNames x = new ManyNames();
        Place.tell(x, "bought 100; pledge 100;");
        for (int a = 0; a < 12; a++) {
            x.name(1);
            x.pledge(a, 9);
            C.due("31 gain of " + (a + 1), x.best(3, 1, 0), a < 8 ? 2 * (a + 1) : -2);
            C.due("31 set of " + (a + 1), x.best(3, 1, 1), a < 8 ? (2 << a) - 1 : -2);
        }
        for (int a = 0; a < 12; a++) {
            x.made(a);
            C.due("31 gain behind " + a, x.best(3, 1, 0), a < 3 ? -2 : 2 * (11 - a));
            C.due("31 set behind " + a, x.best(3, 1, 1), a < 3 ? -2 : 4096 - (2 << a));
        }
        ManyNames y = Place.withNames(0, 0, 0, 0, 1, 1, 1, 1, 1, 1, 1, 1);
        C.due("31 those that sell none are no more", y.best(3, 1, 0), 0);
    }

    /** "0 the GAIN (0 at least: it can buy none)" */
    private static void bestOfNone() {
        ManyNames x = Place.withNames(5, 7);
        Place.tell(x, "bought 100;");
        x.seed(0, true);
        C.due("31 a loss is not bought", x.best(4, 1, 0), 0);
        C.due("31 a loss is not bought", x.best(4, 1, 1), 0);
        C.due("31 a gain of nothing is not bought", x.best(5, 1, 0), 0);
        C.due("31 a gain of nothing is not bought", x.best(5, 1, 1), 0);
        C.due("31 a gain of one", x.best(6, 1, 0), 1);
        C.due("31 a gain of one", x.best(6, 1, 1), 1);
        C.due("31 a value of nothing", x.best(999, 0, 0), 0);
        C.due("31 a value of nothing", x.best(999, 0, 1), 0);
        x.made(0);
        C.due("31 none has anything", x.best(999, 99, 1), 0);
        C.due("31 none sells", Place.withNames(0, 0).best(999, 99, 0), 0);
    }

    /** "BEST: the greatest GAIN; of several the least bits." */
    private static void bestOfSeveral() {
        ManyNames x = Place.withNames(1, 1, 1, 2);
        Place.tell(x, "bought 100; pledge 100;");
        x.pledge(1, 9);
        x.tie(1, 0, 9, 0);
        x.tie(1, 2, 9, 0);
        x.tie(1, 3, 9, 0);
        C.due("31 any one of three has it all", x.best(9, 1, 1), 1);
        C.due("31 its gain", x.best(9, 1, 0), 8);
        C.due("31 two of them for the ninth", x.best(8, 2, 1), 3);
        C.due("31 their gain", x.best(8, 2, 0), 16);
        C.due("31 the ninth is worth its price: one alone is as good, with less bits", x.best(8, 1, 1), 1);
        C.due("31 their gain", x.best(8, 1, 0), 7);
    }
}
