/** Promises 21 to 26: each sentence of the document that names an edge has a test here, with its words ahead of it. */
public final class WordEdgesTest {
    private static final Check C = new Check();
    private static final Still S = new Still(C);

    public static void main(String[] args) {
        wordsToTake();
        wordsToRefuse();
        fullOfWords();
        wordsOfMade();
        whatOfWords();
        firstOfADeal();
        latestOfAName();
        weighsToRefuse();
        weighsNoSayer();
        weighsNought();
        weightsDividedDown();
        weightsFadeToNought();
        weightsUpToIt();
        weightsOfAllTwelve();
        sayersToAsk();
        sayersNotMade();
        marksToRefuse();
        marksWithoutWeight();
        marksInLowestTerms();
        spansToRefuse();
        spansWithoutWeight();
        spansOfK();
        spansOfFewer();
        spansOfMany();
        C.finish();
    }

    /** "a NAME says of another one (the SELLER) in a DEAL (0 to 99) a mark (0 to 10), on a day" */
    private static void wordsToTake() {
        ManyNames x = Place.withNames(0, 0, 0, 0, 0, 0, 0, 0, 0, 0, 0, 0);
        C.due("21 the least", x.word(0, 11, 0, 0), 0);
        x.day(9999);
        C.due("21 the last", x.word(11, 0, 99, 10), 1);
        C.due("21 the same again", x.word(11, 0, 99, 10), 2);
        int[] least = {0, 11, 0, 0, 0, 1};
        int[] last = {11, 0, 99, 10, 9999, 1};
        for (int what = 0; what < 6; what++) {
            C.due("22 the least, " + what, x.wordOf(0, what), least[what]);
            C.due("22 the last, " + what, x.wordOf(1, what), last[what]);
            C.due("22 the same again, " + what, x.wordOf(2, what), what == 5 ? 0 : last[what]);
        }
    }

    /** "BAD: also of itself" */
    private static void wordsToRefuse() {
        for (int a : Place.outside(0, 5)) {
            S.due("21 no sayer " + a, Place::some, x -> x.word(a, 1, 50, 5), -1);
            S.due("21 no seller " + a, Place::some, x -> x.word(1, a, 50, 5), -1);
            S.due("21 neither " + a, Place::some, x -> x.word(a, a, 50, 5), -1);
        }
        for (int a = 0; a < 6; a++) {
            int self = a;
            S.due("21 of itself " + a, Place::some, x -> x.word(self, self, 50, 5), -1);
        }
        for (int deal : Place.outside(0, 99)) {
            S.due("21 deal " + deal, Place::some, x -> x.word(0, 1, deal, 5), -1);
        }
        for (int mark : Place.outside(0, 10)) {
            S.due("21 mark " + mark, Place::some, x -> x.word(0, 1, 50, mark), -1);
        }
    }

    /** "FULL", and "WORDS (24) are numbered as they come" */
    private static void fullOfWords() {
        ManyNames x = Place.withNames(0, 0);
        for (int w = 0; w < 24; w++) {
            x.word(0, 0, 1, 0);
            C.due("21 a refused one takes no number", x.word(w % 2, 1 - w % 2, w, w % 11), w);
            C.due("22 the next is no word yet", x.wordOf(w + 1, 0), -1);
        }
        C.due("21 the 25th", x.word(0, 1, 50, 5), -3);
        C.due("22 the last", x.wordOf(23, 2), 23);
        C.due("36 all", x.count(6), 24);
        S.due("21 the 25th", Place::full, y -> y.word(0, 1, 50, 5), -3);
        S.due("21 the 25th, the last ones", Place::full, y -> y.word(10, 11, 99, 10), -3);
    }

    /** "STATE (the last of these): the one that says it is MADE" */
    private static void wordsOfMade() {
        S.due("21 made", Place::some, x -> x.word(3, 1, 50, 5), -2);
        S.due("21 made of itself", Place::some, x -> x.word(3, 3, 50, 5), -1);
        S.due("21 made and no seller", Place::some, x -> x.word(3, 6, 50, 5), -1);
        S.due("21 made and deal", Place::some, x -> x.word(3, 1, 100, 5), -1);
        S.due("21 made and mark", Place::some, x -> x.word(3, 1, 50, 11), -1);
        S.due("21 full ahead of made", Place::full, x -> x.word(11, 1, 50, 5), -3);
        S.due("21 full and no seller", Place::full, x -> x.word(0, 12, 50, 5), -1);
        S.due("21 full and itself", Place::full, x -> x.word(0, 0, 50, 5), -1);
        S.due("21 full and deal", Place::full, x -> x.word(0, 1, -1, 5), -1);
        S.due("21 full and mark", Place::full, x -> x.word(0, 1, 50, -1), -1);
        C.due("21 of a made one", Place.some().word(1, 3, 50, 5), 5);
    }

    /** "Of a WORD: 0 who says it, .. 5 whether it COUNTS. BAD." */
    private static void whatOfWords() {
        for (int what : Place.outside(0, 5)) {
            S.due("22 what " + what, Place::some, x -> x.wordOf(0, what), -1);
        }
        for (int w : Place.outside(0, 4)) {
            S.due("22 no word " + w, Place::some, x -> x.wordOf(w, 0), -1);
            S.due("22 no word that counts " + w, Place::some, x -> x.wordOf(w, 5), -1);
        }
        S.due("22 the 25th", Place::full, x -> x.wordOf(24, 0), -1);
        S.due("22 the first", Place::full, x -> x.wordOf(0, 2), 0);
        S.due("22 the last", Place::full, x -> x.wordOf(23, 2), 23);
    }

    /** "COUNTS: of WORDS of one DEAL the first one alone" */
    private static void firstOfADeal() {
        int[][] seconds = {{0, 1}, {1, 0}, {0, 2}, {2, 1}, {2, 3}};
        for (int deal = 0; deal < 100; deal += 33) {
            for (int[] second : seconds) {
                ManyNames x = Place.withNames(0, 0, 0, 0);
                x.word(0, 1, deal, 5);
                x.word(second[0], second[1], deal, 6);
                C.due("22 the first of " + deal, x.wordOf(0, 5), 1);
                C.due("22 not the second of " + deal, x.wordOf(1, 5), 0);
                C.due("36 one counts", x.count(7), 1);
                x.word(second[0], second[1], deal == 0 ? 1 : deal - 1, 7);
                C.due("22 of the next deal", x.wordOf(2, 5), 1);
            }
        }
        ManyNames x = Place.withNames(0, 0);
        for (int w = 0; w < 24; w++) {
            x.word(0, 1, 99, 5);
            C.due("36 one of them all", x.count(7), 1);
        }
        C.due("22 the first of 24", x.wordOf(0, 5), 1);
        C.due("22 not the last of 24", x.wordOf(23, 5), 0);
    }

    /** "and of those of one NAME about one SELLER the latest" */
    private static void latestOfAName() {
        ManyNames x = Place.withNames(0, 0, 0);
        for (int w = 0; w < 24; w++) {
            x.word(0, 1, w, 5);
            C.due("22 the latest", x.wordOf(w, 5), 1);
            C.due("36 it alone", x.count(7), 1);
        }
        C.due("22 not the one ahead of the last", x.wordOf(22, 5), 0);
        C.due("22 not the first", x.wordOf(0, 5), 0);
        ManyNames y = Place.withNames(0, 0, 0);
        y.word(0, 1, 1, 5);
        y.word(0, 1, 2, 6);
        y.word(0, 1, 1, 7);
        C.due("22 the latest is not the first of its deal", y.wordOf(2, 5), 0);
        C.due("22 the latest of those that are", y.wordOf(1, 5), 1);
        C.due("22 not the first of deal 1: there is a later one", y.wordOf(0, 5), 0);
        y.word(0, 2, 3, 8);
        y.word(2, 1, 4, 9);
        y.word(1, 0, 5, 9);
        C.due("36 each of another name or seller", y.count(7), 4);
    }

    /** "BAD: also one and the same" */
    private static void weighsToRefuse() {
        for (int a : Place.outside(0, 5)) {
            S.due("23 no seller " + a, Place::some, x -> x.weight(a, 0), -1);
            S.due("23 no name " + a, Place::some, x -> x.weight(1, a), -1);
            S.due("23 neither " + a, Place::some, x -> x.weight(a, a), -1);
        }
        for (int a = 0; a < 6; a++) {
            int self = a;
            S.due("23 one and the same " + a, Place::some, x -> x.weight(self, self), -1);
        }
        S.due("23 none yet", ManyNames::new, x -> x.weight(0, 1), -1);
        S.due("23 the 13th", Place::full, x -> x.weight(12, 0), -1);
        S.due("23 the 13th", Place::full, x -> x.weight(0, 12), -1);
    }

    /** "NONE: it is none of its SAYERS" */
    private static void weighsNoSayer() {
        S.due("23 its word does not count", Place::some, x -> x.weight(1, 4), -4);
        S.due("23 it is made", Place::some, x -> x.weight(1, 3), -4);
        S.due("23 it says nothing", Place::some, x -> x.weight(1, 5), -4);
        S.due("23 it says nothing of that one", Place::some, x -> x.weight(2, 0), -4);
        S.due("23 the other way", Place::some, x -> x.weight(0, 1), -4);
        S.due("23 a sayer: 94 of 100 of 102", Place::some, x -> x.weight(1, 0), 95);
        S.due("23 a sayer: 94 of 100 of 28", Place::some, x -> x.weight(2, 1), 26);
        S.due("23 a sayer: 94 of 100 of 7", Place::some, x -> x.weight(0, 2), 6);
    }

    /** A SAYER to whom nothing comes has a WEIGHT of 0: it is a SAYER all the same. */
    private static void weighsNought() {
        ManyNames x = Place.withNames(0, 0);
        x.word(0, 1, 1, 5);
        C.due("23 nothing comes", x.weight(1, 0), 0);
        C.due("24 a sayer", x.sayers(1), 1);
        C.due("25 no weight", x.mark(1, 0), -4);
        x.pledge(0, 10);
        C.due("23 one comes", x.weight(1, 0), 1);
        C.due("25 weight", x.mark(1, 0), 5);
        x.day(5);
        C.due("23 99 of 100 of one", x.weight(1, 0), 0);
        C.due("25 no weight", x.mark(1, 0), -4);
    }

    /** "times 100 less word times the age of the WORD by 100 (divided down; ..), by 100, divided down" */
    private static void weightsDividedDown() {
        ManyNames x = Place.withNames(0, 0);
        Place.tell(x, "word 30; seed 999;");
        x.seed(0, true);
        x.word(0, 1, 1, 5);
        int[] days = {0, 3, 4, 6, 7, 10};
        int[] due = {999, 999, 989, 989, 979, 969};
        for (int i = 0; i < days.length; i++) {
            x.day(days[i]);
            C.due("23 on day " + days[i], x.weight(1, 0), due[i]);
        }
        Place.tell(x, "word 0; seed 999;");
        x.day(9999);
        C.due("23 it never fades", x.weight(1, 0), 999);
        Place.tell(x, "word 1; seed 999;");
        C.due("23 1 of 100 for each 100 days: 99.99", x.weight(1, 0), 9);
    }

    /** "(..; 0 at least)" */
    private static void weightsFadeToNought() {
        ManyNames x = Place.withNames(0, 0);
        Place.tell(x, "word 100; seed 999;");
        x.seed(0, true);
        x.word(0, 1, 1, 5);
        int[] days = {1, 99, 100, 101, 9999};
        int[] due = {989, 9, 0, 0, 0};
        for (int i = 0; i < days.length; i++) {
            x.day(days[i]);
            C.due("23 on day " + days[i], x.weight(1, 0), due[i]);
            C.due("25 on day " + days[i], x.mark(1, 1), due[i] == 0 ? -4 : 1);
        }
        x.word(0, 1, 1, 5);
        C.due("23 a word that does not count freshens nothing", x.weight(1, 0), 0);
        x.word(0, 1, 2, 6);
        C.due("23 a word that counts does", x.weight(1, 0), 999);
    }

    /** "TRUST of the HEAP of all SAYERS up to it (by numbers) less TRUST of those ahead of it" */
    private static void weightsUpToIt() {
        ManyNames x = Place.withNames(0, 0, 0, 0, 0);
        x.seed(0, true);
        x.tie(0, 1, 10, 0);
        x.tie(1, 2, 10, 0);
        x.tie(1, 3, 10, 0);
        x.word(3, 4, 1, 5);
        C.due("23 alone", x.weight(4, 3), 10);
        x.word(2, 4, 2, 5);
        C.due("23 the less number has it all", x.weight(4, 2), 10);
        C.due("23 the greater one has nothing left", x.weight(4, 3), 0);
        x.day(9999);
        C.due("23 the older word: still by numbers", x.weight(4, 3), 0);
        Place.tell(x, "fade 0; word 1;");
        C.due("23 it has faded to 1 of 100", x.weight(4, 2), 0);
        x.word(3, 4, 3, 5);
        C.due("23 what the other one could not keep is not handed on", x.weight(4, 3), 0);
        x.word(0, 4, 4, 5);
        C.due("23 the seed, ahead of all", x.weight(4, 0), 100);
    }

    /** "names behind one thin place weigh together no more than it lets through" */
    private static void weightsOfAllTwelve() {
        ManyNames x = Place.withNames(0, 0, 0, 0, 0, 0, 0, 0, 0, 0, 0, 0);
        x.seed(0, true);
        x.tie(0, 1, 7, 0);
        for (int a = 2; a < 12; a++) {
            x.tie(1, a, 3, 0);
            x.word(a, 0, a, 5);
        }
        int[] due = {3, 3, 1, 0, 0, 0, 0, 0, 0, 0};
        for (int a = 2; a < 12; a++) {
            // Their own seller is the seed: what comes from it is weighed all the same.
            C.due("23 of " + a, x.weight(0, a), due[a - 2]);
        }
        C.due("24 ten", x.sayers(0), 4092);
        x.word(1, 0, 50, 5);
        C.due("23 the one ahead of them", x.weight(0, 1), 7);
        C.due("23 nothing left", x.weight(0, 2), 0);
        C.due("24 all but the seller", x.sayers(0), 4094);
    }

    /** "SAYERS of a SELLER (bits). BAD." */
    private static void sayersToAsk() {
        for (int a : Place.outside(0, 5)) {
            S.due("24 no seller " + a, Place::some, x -> x.sayers(a), -1);
        }
        S.due("24 none yet", ManyNames::new, x -> x.sayers(0), -1);
        S.due("24 the 13th", Place::full, x -> x.sayers(12), -1);
        S.due("24 the first", Place::some, x -> x.sayers(0), 4);
        S.due("24 the last: none", Place::some, x -> x.sayers(5), 0);
        S.due("24 the last of twelve", Place::full, x -> x.sayers(11), 64);
    }

    /** "NAMES with a WORD that COUNTS about it, not MADE" */
    private static void sayersNotMade() {
        S.due("24 neither 3, made, nor 4, whose word does not count", Place::some, x -> x.sayers(1), 1);
        ManyNames x = Place.withNames(0, 0, 0);
        x.word(1, 0, 1, 5);
        x.word(2, 0, 2, 5);
        C.due("24 two", x.sayers(0), 6);
        x.made(1);
        C.due("24 one", x.sayers(0), 4);
        x.made(2);
        C.due("24 none", x.sayers(0), 0);
        C.due("22 their words count", x.count(7), 2);
    }

    /** "BAD; NONE: no WEIGHT.": BAD ahead of NONE. */
    private static void marksToRefuse() {
        for (int what = 0; what < 2; what++) {
            int asked = what;
            for (int a : Place.outside(0, 5)) {
                S.due("25 no seller " + a, Place::some, x -> x.mark(a, asked), -1);
            }
            S.due("25 none yet", ManyNames::new, x -> x.mark(0, asked), -1);
            S.due("25 the 13th", Place::full, x -> x.mark(12, asked), -1);
        }
        for (int what : Place.outside(0, 1)) {
            S.due("25 what " + what, Place::some, x -> x.mark(1, what), -1);
            S.due("25 what " + what + ", no weight", Place::some, x -> x.mark(5, what), -1);
        }
    }

    private static void marksWithoutWeight() {
        for (int what = 0; what < 2; what++) {
            int asked = what;
            S.due("25 no words", Place::some, x -> x.mark(5, asked), -4);
            ManyNames x = Place.withNames(0, 0, 0);
            x.word(0, 1, 1, 5);
            C.due("25 words without weight", x.mark(1, what), -4);
            x.pledge(0, 10);
            C.due("25 a weight of one", x.mark(1, what), what == 0 ? 5 : 1);
            x.made(0);
            C.due("25 a word of a made one", x.mark(1, what), -4);
        }
    }

    /** "Fractions are in lowest terms, the denominator above 0." */
    private static void marksInLowestTerms() {
        ManyNames x = Place.withNames(0, 0, 0);
        Place.tell(x, "seed 999;");
        x.seed(0, true);
        x.word(0, 2, 1, 0);
        C.due("25 0 of 999 is 0", x.mark(2, 0), 0);
        C.due("25 by 1", x.mark(2, 1), 1);
        x.word(0, 2, 2, 10);
        C.due("25 9990 of 999 is 10", x.mark(2, 0), 10);
        C.due("25 by 1", x.mark(2, 1), 1);
        x.pledge(1, 10);
        x.word(1, 2, 3, 9);
        C.due("25 9999 of 1000", x.mark(2, 0), 9999);
        C.due("25 9999 of 1000", x.mark(2, 1), 1000);
        x.pledge(1, 20);
        C.due("25 10017 of 1002", x.mark(2, 0), 3339);
        C.due("25 10017 of 1002", x.mark(2, 1), 334);
        S.due("25 asking changes nothing", Place::some, y -> y.mark(1, 0), 8);
        S.due("25 asking changes nothing", Place::some, y -> y.mark(1, 1), 1);
    }

    /** "BAD; NONE: no WEIGHT.": BAD ahead of NONE; "k (0 to 3)" */
    private static void spansToRefuse() {
        for (int a : Place.outside(0, 5)) {
            S.due("26 no seller " + a, Place::some, x -> x.span(a, 0, 0), -1);
        }
        for (int k : Place.outside(0, 3)) {
            S.due("26 k " + k, Place::some, x -> x.span(1, k, 0), -1);
            S.due("26 k " + k + ", no weight", Place::some, x -> x.span(5, k, 0), -1);
        }
        for (int what : Place.outside(0, 3)) {
            S.due("26 what " + what, Place::some, x -> x.span(1, 0, what), -1);
            S.due("26 what " + what + ", no weight", Place::some, x -> x.span(5, 0, what), -1);
        }
        S.due("26 none yet", ManyNames::new, x -> x.span(0, 0, 0), -1);
        S.due("26 the 13th", Place::full, x -> x.span(12, 0, 0), -1);
    }

    private static void spansWithoutWeight() {
        for (int k = 0; k < 4; k++) {
            for (int what = 0; what < 4; what++) {
                int many = k;
                int asked = what;
                S.due("26 no words", Place::some, x -> x.span(5, many, asked), -4);
                ManyNames x = Place.withNames(0, 0);
                x.word(0, 1, 1, 5);
                C.due("26 words without weight", x.span(1, k, what), -4);
            }
        }
    }

    /** Five names with weights 1, 2, 4, 8, 16 say so of name 5. */
    private static ManyNames five(int... marks) {
        ManyNames x = Place.withNames(0, 0, 0, 0, 0, 0);
        Place.tell(x, "pledge 100;");
        for (int a = 0; a < 5; a++) {
            x.pledge(a, 1 << a);
            x.word(a, 5, a, marks[a]);
        }
        return x;
    }

    private static void span(ManyNames x, int seller, int k, int... due) {
        for (int what = 0; what < 4; what++) {
            C.due("26 span with " + k + ", " + what, x.span(seller, k, what), due[what]);
        }
    }

    /** "the least and the greatest MARK, if any k of the SAYERS could say what they want (0 to 10), WEIGHTS staying" */
    private static void spansOfK() {
        ManyNames x = five(5, 5, 5, 5, 5);
        span(x, 5, 0, 5, 1, 5, 1);
        span(x, 5, 1, 75, 31, 235, 31);
        span(x, 5, 2, 35, 31, 275, 31);
        span(x, 5, 3, 15, 31, 295, 31);
        // The heaviest can move it one way alone.
        ManyNames y = five(10, 9, 1, 2, 10);
        span(y, 5, 0, 208, 31, 208, 31);
        span(y, 5, 1, 48, 31, 272, 31);
        span(y, 5, 2, 30, 31, 308, 31);
        span(y, 5, 3, 14, 31, 10, 1);
        // Nothing can be moved down, or up, any further.
        span(five(0, 0, 0, 0, 0), 5, 3, 0, 1, 280, 31);
        span(five(10, 10, 10, 10, 10), 5, 3, 30, 31, 10, 1);
        C.due("25 the mark itself stays", y.mark(5, 0), 208);
    }

    /** "(all, if there are fewer)" */
    private static void spansOfFewer() {
        int[] none = {4, 1, 4, 1};
        int[] all = {0, 1, 10, 1};
        int[][][] due = {{none, all, all, all}, {none, {2, 1, 7, 1}, all, all},
            {none, {8, 3, 6, 1}, {4, 3, 8, 1}, all}};
        for (int many = 1; many <= 3; many++) {
            ManyNames x = Place.withNames(0, 0, 0, 0, 0);
            for (int a = 0; a < many; a++) {
                x.pledge(a, 10);
                x.word(a, 4, a, 4);
            }
            for (int k = 0; k < 4; k++) {
                span(x, 4, k, due[many - 1][k]);
            }
        }
    }

    /** Of eleven SAYERS three at most are moved. */
    private static void spansOfMany() {
        ManyNames x = Place.withNames(0, 0, 0, 0, 0, 0, 0, 0, 0, 0, 0, 0);
        for (int a = 0; a < 11; a++) {
            x.pledge(a, 10);
            x.word(a, 11, a, a);
        }
        span(x, 11, 0, 5, 1, 5, 1);
        span(x, 11, 1, 45, 11, 65, 11);
        span(x, 11, 2, 36, 11, 74, 11);
        span(x, 11, 3, 28, 11, 82, 11);
    }
}
