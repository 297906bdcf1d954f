/** Promises 27 to 31: rings, odds, the cheat. */
public final class RingsTest {
    private static final Check C = new Check();

    public static void main(String[] args) {
        rings();
        odds();
        oddsOfMany();
        oddest();
        oddestOfFour();
        neitherTwoNorFive();
        gains();
        gainsOfFined();
        best();
        tooManySell();
        C.finish();
    }

    /** Six words, four between 0, 1 and 2, three of them good; one good one elsewhere. */
    private static ManyNames ringOfThree() {
        ManyNames x = Place.withNames(0, 0, 0, 0, 0);
        x.word(0, 1, 1, 8);
        x.word(1, 2, 1, 9);
        x.word(2, 0, 1, 10);
        x.word(0, 2, 2, 7);
        x.word(3, 4, 3, 8);
        x.word(3, 0, 4, 0);
        return x;
    }

    private static void rings() {
        ManyNames x = ringOfThree();
        int[] due = {6, 4, 4, 3};
        for (int what = 0; what < 4; what++) {
            C.due("27 ring(7," + what + ")", x.ring(7, what), due[what]);
        }
        C.due("27 a heap of one has none", x.ring(1, 1), 0);
        C.due("27 a heap of none", x.ring(0, 0), 6);
        C.due("27 a heap of none", x.ring(0, 3), 0);
        C.due("27 what", x.ring(7, 4), -1);
        C.due("27 what", x.ring(7, -1), -1);
        C.due("27 no name", x.ring(32, 0), -1);
        C.due("27 below", x.ring(-1, 0), -1);
        Place.tell(x, "good 7;");
        C.due("27 good by rule", x.ring(7, 3), 4);
        x.made(0);
        C.due("27 all words, of made ones too", x.ring(7, 3), 4);
    }

    private static void odds() {
        ManyNames x = ringOfThree();
        // Of 15 ways: 3 of 4 and 1 of 2: 8; 4 of 4: 1.
        C.due("28 numerator", x.odds(7, 0), 3);
        C.due("28 denominator", x.odds(7, 1), 5);
        C.due("28 sure", x.odds(0, 0), 1);
        C.due("28 sure", x.odds(0, 1), 1);
        C.due("28 what", x.odds(7, 2), -1);
        C.due("28 what", x.odds(7, -1), -1);
        C.due("28 no name", x.odds(32, 0), -1);
        C.due("28 below", x.odds(-1, 0), -1);
        ManyNames empty = new ManyNames();
        C.due("28 no words", empty.odds(0, 0), 1);
        C.due("28 no words", empty.odds(0, 1), 1);
    }

    /** All twelve words between three names are good, the twelve others are not: one way of 2704156. */
    private static void oddsOfMany() {
        ManyNames x = Place.withNames(0, 0, 0, 0, 0);
        for (int w = 0; w < 24; w++) {
            if (w % 2 == 0) {
                x.word(w / 2 % 3, (w / 2 + 1) % 3, w, 9);
            } else {
                x.word(3, 4, w, 1);
            }
        }
        C.due("28 one way", x.odds(7, 0), 1);
        C.due("28 of all", x.odds(7, 1), 2704156);
        C.due("29 the least bits of those with the least odds", x.oddest(0), 7);
        C.due("29 numerator", x.oddest(1), 1);
        C.due("29 denominator", x.oddest(2), 2704156);
    }

    private static void oddest() {
        ManyNames x = new ManyNames();
        C.due("29 none", x.oddest(0), -4);
        C.due("29 none", x.oddest(1), -4);
        C.due("29 none", x.oddest(2), -4);
        C.due("29 what", x.oddest(3), -1);
        C.due("29 what", x.oddest(-1), -1);
        ManyNames y = Place.withNames(0, 0, 0);
        y.word(0, 1, 0, 9);
        C.due("29 none below 1", y.oddest(0), -4);
        ManyNames z = ringOfThree();
        // 1, 2, 3, 4 have two words, both good: 6 of 15 ways; 0, 1, 2 have but 9 of 15.
        C.due("29 the least odds", z.oddest(0), 30);
        C.due("29 numerator", z.oddest(1), 2);
        C.due("29 denominator", z.oddest(2), 5);
        z.word(3, 4, 5, 1);
        // Of 35 ways now: 1, 2, 3, 4 with two of three: 22; 0, 1, 2 with three of four: 13, with 4 as many (more bits).
        C.due("29 the ring of three", z.oddest(0), 7);
        C.due("29 numerator", z.oddest(1), 13);
        C.due("29 denominator", z.oddest(2), 35);
    }

    private static void oddestOfFour() {
        ManyNames x = Place.withNames(0, 0, 0, 0, 0, 0);
        x.word(1, 2, 0, 9);
        x.word(3, 4, 1, 9);
        x.word(0, 5, 2, 0);
        x.word(5, 0, 3, 0);
        C.due("29 four", x.oddest(0), 2 + 4 + 8 + 16);
        C.due("29 numerator", x.oddest(1), 1);
        C.due("29 denominator", x.oddest(2), 6);
        x.made(1);
        C.due("29 made ones too", x.oddest(0), 30);
    }

    private static void neitherTwoNorFive() {
        ManyNames x = Place.withNames(0, 0, 0, 0, 0, 0, 0);
        x.word(0, 1, 0, 9);
        x.word(5, 6, 1, 0);
        C.due("29 two would do: three with the least bits", x.oddest(0), 7);
        x.word(2, 3, 2, 9);
        x.word(6, 5, 3, 0);
        x.word(4, 0, 4, 9);
        // Of 10 ways: two good of two: 3 (four of the names), three of three: 1 (all five).
        C.due("29 not five", x.oddest(0), 15);
        C.due("29 numerator", x.oddest(1), 3);
        C.due("29 denominator", x.oddest(2), 10);
    }

    private static ManyNames market() {
        ManyNames x = Place.withNames(3, 4, 0, 8);
        Place.tell(x, "bought 50;");
        x.seed(0, true);
        x.tie(0, 1, 30, 0);
        x.tie(0, 3, 20, 0);
        return x;
    }

    private static void gains() {
        ManyNames x = market();
        C.due("30 none", x.gain(0, 1, 99), 0);
        C.due("30 one", x.gain(1, 81, 2), 2 * 40 - 3);
        C.due("30 behind a tie", x.gain(2, 81, 2), 2 * 30 - 4);
        C.due("30 the seed's room", x.gain(11, 160, 1), 100 - 15);
        C.due("30 three ties", x.gain(11, 81, 1), 40 + 30 + 20 - 15);
        C.due("30 by 100", x.gain(1, 199, 1), 99 - 3);
        C.due("30 a loss", x.gain(8, 1, 99), -8);
        C.due("30 a value of nought", x.gain(8, 1, 0), -8);
        C.due("30 sells none", x.gain(4, 40, 1), -1000000);
        C.due("30 one of them sells none", x.gain(5, 40, 1), -1000000);
        C.due("30 no name", x.gain(16, 40, 1), -1000000);
        C.due("30 below", x.gain(-1, 40, 1), -1000000);
        C.due("30 room", x.gain(1, 0, 1), -1000000);
        C.due("30 room", x.gain(1, 1000, 1), -1000000);
        C.due("30 value", x.gain(1, 1, -1), -1000000);
        C.due("30 value", x.gain(1, 1, 100), -1000000);
        C.due("30 bounds", x.gain(1, 999, 99), 99 * 100 - 3);
        x.made(3);
        C.due("30 made", x.gain(8, 40, 1), -1000000);
        C.due("16 nothing is bought by that", x.trust(1), 30);
        C.due("36 nor are there more names", x.count(0), 4);
    }

    /** The told words give a bought tie its room times bought alone: a fine does not halve it. */
    private static void gainsOfFined() {
        ManyNames x = Place.withNames(1, 0);
        Place.tell(x, "bought 100;");
        x.tie(0, 1, 1, 2);
        x.made(1);
        C.due("30 fined", x.of(0, 3), 1);
        x.pledge(0, 999);
        C.due("30 the whole room", x.gain(1, 40, 1), 39);
    }

    private static void best() {
        ManyNames x = market();
        C.due("31 gain", x.best(80, 1, 0), 40 + 30 + 20 - 15);
        C.due("31 set", x.best(80, 1, 1), 11);
        C.due("31 of several the least bits", x.best(8, 1, 0), 1);
        C.due("31 of several the least bits", x.best(8, 1, 1), 1);
        C.due("31 a set that gains nothing more is not taken", x.best(16, 1, 1), 3);
        C.due("31 none", x.best(1, 99, 0), 0);
        C.due("31 none", x.best(1, 99, 1), 0);
        C.due("31 room", x.best(0, 1, 0), -1);
        C.due("31 room", x.best(1000, 1, 0), -1);
        C.due("31 value", x.best(1, -1, 0), -1);
        C.due("31 value", x.best(1, 100, 0), -1);
        C.due("31 what", x.best(1, 1, 2), -1);
        C.due("31 what", x.best(1, 1, -1), -1);
        x.made(0);
        C.due("31 all made of nothing", x.best(80, 1, 1), 0);
    }

    private static void tooManySell() {
        ManyNames x = Place.withNames(1, 1, 1, 1, 1, 1, 1, 1, 0);
        Place.tell(x, "bought 100; pledge 100;");
        for (int a = 0; a < 9; a++) {
            x.pledge(a, 5);
        }
        C.due("31 eight", x.best(5, 1, 0), 32);
        C.due("31 eight", x.best(5, 1, 1), 255);
        x.name(1);
        C.due("31 nine", x.best(5, 1, 0), -2);
        C.due("31 nine, bad first", x.best(5, 1, 2), -1);
        C.due("30 nine are no hindrance to one set", x.gain(767, 5, 1), 40 - 9);
        x.made(0);
        C.due("31 eight that are not made", x.best(5, 1, 1), 254);
    }
}
