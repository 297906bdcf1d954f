/** Promises 21 to 26: words, weights, marks, spans. */
public final class WordsTest {
    private static final Check C = new Check();

    public static void main(String[] args) {
        wordsCome();
        wordsAreTold();
        counting();
        weights();
        weightsFade();
        sayers();
        marks();
        spans();
        spanOfAll();
        firstNameSays();
        sellersApart();
        C.finish();
    }

    private static void wordsCome() {
        ManyNames x = Place.withNames(0, 0, 0);
        C.due("21 of itself", x.word(1, 1, 0, 0), -1);
        C.due("21 no name", x.word(3, 1, 0, 0), -1);
        C.due("21 no name", x.word(-1, 1, 0, 0), -1);
        C.due("21 no seller", x.word(1, 3, 0, 0), -1);
        C.due("21 no seller", x.word(1, -1, 0, 0), -1);
        C.due("21 deal", x.word(1, 0, 100, 0), -1);
        C.due("21 deal", x.word(1, 0, -1, 0), -1);
        C.due("21 mark", x.word(1, 0, 0, 11), -1);
        C.due("21 mark", x.word(1, 0, 0, -1), -1);
        for (int w = 0; w < 23; w++) {
            C.due("21 word", x.word(1, 0, w == 0 ? 99 : w, w % 11), w);
        }
        x.made(2);
        C.due("21 made", x.word(2, 1, 50, 5), -2);
        C.due("21 made and bad", x.word(2, 2, 50, 5), -1);
        C.due("21 of a made one", x.word(1, 2, 50, 5), 23);
        C.due("21 full", x.word(1, 0, 51, 5), -3);
        C.due("21 full ahead of made", x.word(2, 1, 51, 5), -3);
        C.due("21 bad ahead of full", x.word(1, 0, 100, 5), -1);
        C.due("21 count", x.count(6), 24);
    }

    private static void wordsAreTold() {
        ManyNames x = Place.withNames(0, 0, 0);
        x.day(12);
        x.word(2, 1, 34, 9);
        int[] due = {2, 1, 34, 9, 12, 1};
        for (int what = 0; what < 6; what++) {
            C.due("22 wordOf(0," + what + ")", x.wordOf(0, what), due[what]);
        }
        C.due("22 what", x.wordOf(0, 6), -1);
        C.due("22 what", x.wordOf(0, -1), -1);
        C.due("22 no word", x.wordOf(1, 0), -1);
        C.due("22 no word", x.wordOf(-1, 0), -1);
    }

    private static void counting() {
        ManyNames x = Place.withNames(0, 0, 0, 0);
        x.word(0, 1, 5, 1);
        x.word(0, 1, 5, 2);
        C.due("22 the first of a deal, though it is not the latest", x.wordOf(0, 5), 1);
        C.due("22 not the second", x.wordOf(1, 5), 0);
        x.word(2, 3, 5, 3);
        C.due("22 of a deal one alone, whoever says it of whom", x.wordOf(2, 5), 0);
        x.word(0, 1, 6, 4);
        C.due("22 the latest", x.wordOf(3, 5), 1);
        C.due("22 not the one before", x.wordOf(0, 5), 0);
        x.word(0, 2, 7, 5);
        x.word(3, 1, 8, 6);
        C.due("22 another seller", x.wordOf(3, 5), 1);
        C.due("22 another seller", x.wordOf(4, 5), 1);
        C.due("22 another sayer", x.wordOf(5, 5), 1);
        C.due("36 that count", x.count(7), 3);
        x.made(3);
        C.due("22 of a made one", x.wordOf(5, 5), 1);
        C.due("36 that count", x.count(7), 3);
    }

    /** 1 and 2 lie behind one tie of 30, 3 has one of 10. */
    private static ManyNames thinPlace() {
        ManyNames x = Place.withNames(0, 0, 0, 0, 0, 0);
        x.seed(0, true);
        x.tie(0, 5, 30, 0);
        x.tie(5, 1, 20, 0);
        x.tie(5, 2, 25, 0);
        x.tie(0, 3, 10, 0);
        return x;
    }

    private static void weights() {
        ManyNames x = thinPlace();
        x.word(2, 4, 1, 8);
        C.due("23 alone", x.weight(4, 2), 25);
        x.word(1, 4, 2, 3);
        x.word(3, 4, 3, 6);
        C.due("23 by numbers", x.weight(4, 1), 20);
        C.due("23 what is left", x.weight(4, 2), 10);
        C.due("23 its own tie", x.weight(4, 3), 10);
        C.due("23 no sayer", x.weight(4, 0), -4);
        C.due("23 no sayer of that one", x.weight(3, 1), -4);
        C.due("23 one and the same", x.weight(4, 4), -1);
        C.due("23 no name", x.weight(6, 1), -1);
        C.due("23 no name", x.weight(4, 6), -1);
        C.due("23 no name", x.weight(-1, 1), -1);
        C.due("23 no name", x.weight(4, -1), -1);
        x.made(1);
        C.due("23 made", x.weight(4, 1), -4);
        C.due("23 the other one has all again", x.weight(4, 2), 25);
    }

    private static void weightsFade() {
        ManyNames x = thinPlace();
        Place.tell(x, "fade 0; word 25;");
        x.word(3, 4, 1, 8);
        int[] days = {3, 4, 40, 44, 199, 200, 396, 400, 9999};
        int[] due = {10, 9, 9, 8, 5, 5, 0, 0, 0};
        for (int i = 0; i < days.length; i++) {
            x.day(days[i]);
            C.due("23 on day " + days[i], x.weight(4, 3), due[i]);
        }
        C.due("25 no weight", x.mark(4, 0), -4);
        C.due("26 no weight", x.span(4, 0, 0), -4);
        C.due("24 a sayer all the same", x.sayers(4), 8);
        x.word(3, 4, 2, 8);
        C.due("23 a new word", x.weight(4, 3), 10);
    }

    private static void sayers() {
        ManyNames x = thinPlace();
        C.due("24 none", x.sayers(4), 0);
        x.word(1, 4, 1, 3);
        x.word(2, 4, 1, 3);
        C.due("24 none whose word does not count", x.sayers(4), 2);
        x.word(2, 4, 2, 3);
        x.word(3, 1, 3, 3);
        C.due("24 two", x.sayers(4), 6);
        C.due("24 of another", x.sayers(1), 8);
        x.made(2);
        C.due("24 no made one", x.sayers(4), 2);
        x.made(4);
        C.due("24 of a made one", x.sayers(4), 2);
        C.due("24 no name", x.sayers(6), -1);
        C.due("24 no name", x.sayers(-1), -1);
    }

    private static void marks() {
        ManyNames x = thinPlace();
        C.due("25 none", x.mark(4, 0), -4);
        C.due("25 none", x.mark(4, 1), -4);
        C.due("25 what", x.mark(4, 2), -1);
        C.due("25 what", x.mark(4, -1), -1);
        C.due("25 no name", x.mark(6, 0), -1);
        C.due("25 no name", x.mark(-1, 0), -1);
        x.word(1, 4, 1, 0);
        C.due("25 nought", x.mark(4, 0), 0);
        C.due("25 by one", x.mark(4, 1), 1);
        x.word(2, 4, 2, 5);
        x.word(3, 4, 3, 8);
        C.due("25 0 * 20 + 5 * 10 + 8 * 10 by 40", x.mark(4, 0), 13);
        C.due("25 in lowest terms", x.mark(4, 1), 4);
    }

    private static void spans() {
        ManyNames x = thinPlace();
        C.due("26 none", x.span(4, 0, 0), -4);
        x.word(1, 4, 1, 4);
        x.word(2, 4, 2, 9);
        x.word(3, 4, 3, 7);
        // Weights 20, 10, 10; 80 + 90 + 70 by 40.
        int[][] due = {{6, 1, 6, 1}, {15, 4, 9, 1}, {7, 4, 39, 4}, {0, 1, 10, 1}};
        for (int k = 0; k < 4; k++) {
            for (int what = 0; what < 4; what++) {
                C.due("26 span(4," + k + "," + what + ")", x.span(4, k, what), due[k][what]);
            }
        }
        C.due("26 k", x.span(4, 4, 0), -1);
        C.due("26 k", x.span(4, -1, 0), -1);
        C.due("26 what", x.span(4, 0, 4), -1);
        C.due("26 what", x.span(4, 0, -1), -1);
        C.due("26 no name", x.span(6, 0, 0), -1);
        C.due("26 no name", x.span(-1, 0, 0), -1);
    }

    private static void firstNameSays() {
        ManyNames x = thinPlace();
        x.word(0, 4, 1, 3);
        C.due("36 the first word counts", x.count(7), 1);
        C.due("23 the seed's own", x.weight(4, 0), 100);
        C.due("25 numerator", x.mark(4, 0), 3);
        C.due("25 denominator", x.mark(4, 1), 1);
        C.due("26 least", x.span(4, 1, 0), 0);
        C.due("26 greatest", x.span(4, 1, 2), 10);
    }

    /** What is weighed for one seller leaves nothing behind for another one. */
    private static void sellersApart() {
        ManyNames x = thinPlace();
        x.word(1, 4, 1, 10);
        x.word(3, 5, 2, 2);
        C.due("25 of 4", x.mark(4, 0), 10);
        C.due("25 of 5", x.mark(5, 0), 2);
        C.due("26 of 5", x.span(5, 0, 2), 2);
        C.due("26 of 4", x.span(4, 0, 0), 10);
        C.due("23 of 4", x.weight(4, 1), 20);
        C.due("23 of 5", x.weight(5, 3), 10);
    }

    private static void spanOfAll() {
        ManyNames x = thinPlace();
        x.word(1, 4, 1, 4);
        for (int k = 1; k < 4; k++) {
            C.due("26 all, if there are fewer", x.span(4, k, 0), 0);
            C.due("26 all, if there are fewer", x.span(4, k, 1), 1);
            C.due("26 all, if there are fewer", x.span(4, k, 2), 10);
            C.due("26 all, if there are fewer", x.span(4, k, 3), 1);
        }
    }
}
