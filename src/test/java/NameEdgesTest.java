/** Promises 1 to 10: each sentence of the document that names an edge has a test here, with its words ahead of it. */
public final class NameEdgesTest {
    private static final Check C = new Check();
    private static final Still S = new Still(C);

    public static void main(String[] args) {
        nothingAtFirst();
        pricesToTake();
        pricesToRefuse();
        twelveNames();
        whoIsSeed();
        coinsToTake();
        coinsToRefuse();
        pledgesDividedDown();
        pledgesOfMade();
        tiesToTake();
        tiesToRefuse();
        fullOfTies();
        tiesOfMade();
        whatOfTies();
        kindsDividedDown();
        fadesDividedDown();
        fadesToNought();
        halvesDividedDown();
        noRoomOfMade();
        renewing();
        renewingOfMade();
        whatOfNames();
        givenByTheSource();
        tiesWithRoom();
        judgedOnce();
        whoStands();
        finedUpToADay();
        finedOrAsItIs();
        finesOnTheLastDay();
        days();
        C.finish();
    }

    /** "Nothing; rules as told at first; SHEETS of nothing." */
    private static void nothingAtFirst() {
        ManyNames x = new ManyNames();
        for (int what = 0; what < 7; what++) {
            C.due("1 no name", x.of(0, what), -1);
            C.due("1 no tie", x.tieOf(0, what), -1);
            C.due("1 no word", x.wordOf(0, what), -1);
        }
        C.due("1 no name to seed", x.seed(0, true), -1);
        C.due("1 no name to pledge for", x.pledge(0, 1), -1);
        C.due("1 no names to tie", x.tie(0, 1, 1, 0), -1);
        C.due("1 no tie to renew", x.renew(0), -1);
        C.due("1 no name to judge", x.made(0), -1);
        C.due("1 no name to trust", x.trust(0), -1);
        C.due("1 a heap of none", x.heap(0), 0);
        C.due("1 no heap", x.heap(1), -1);
        C.due("1 no names to say", x.word(0, 1, 0, 0), -1);
        C.due("1 no sayers", x.sayers(0), -1);
        C.due("1 no ring", x.ring(1, 0), -1);
        C.due("1 none is bought", x.gain(0, 1, 99), 0);
        C.due("1 none to buy", x.best(999, 99, 0), 0);
        C.due("1 none to buy", x.best(999, 99, 1), 0);
        C.due("1 day 0", x.day(0), 0);
        C.due("1 no bytes", x.end(0), 0);
        C.due("1 no lines", x.rules(), 0);
        for (int k = 0; k < 4; k++) {
            for (int lane = 0; lane < 3; lane++) {
                C.due("1 nothing to read", x.read(k, lane, 0, 1), 0);
                C.due("1 a sheet of nothing", x.lost(), 1);
            }
        }
    }

    /** "A NAME with a price (0: it sells none; to 999): its number." */
    private static void pricesToTake() {
        ManyNames x = new ManyNames();
        C.due("2 the least price", x.name(0), 0);
        C.due("2 the least that sells", x.name(1), 1);
        C.due("2 the last", x.name(999), 2);
        C.due("2 the least price", x.of(0, 0), 0);
        C.due("2 the least that sells", x.of(1, 0), 1);
        C.due("2 the last", x.of(2, 0), 999);
        C.due("2 sells none", x.gain(1, 1, 0), -1000000);
        C.due("2 sells", x.gain(2, 1, 0), -1);
        C.due("2 sells", x.gain(4, 1, 0), -999);
    }

    /** "BAD; FULL.": BAD ahead of FULL. */
    private static void pricesToRefuse() {
        for (int price : Place.outside(0, 999)) {
            S.due("2 the first of price " + price, ManyNames::new, x -> x.name(price), -1);
            S.due("2 the 7th of price " + price, Place::some, x -> x.name(price), -1);
            S.due("2 the 13th of price " + price, Place::full, x -> x.name(price), -1);
        }
        S.due("2 the 13th", Place::full, x -> x.name(0), -3);
        S.due("2 the 13th", Place::full, x -> x.name(999), -3);
    }

    /** "NAMES (12) are numbered as they come." */
    private static void twelveNames() {
        ManyNames x = new ManyNames();
        for (int a = 0; a < 12; a++) {
            x.name(1000);
            C.due("2 a refused one takes no number", x.name(a), a);
            C.due("2 its price", x.of(a, 0), a);
            C.due("2 the next is no name yet", x.of(a + 1, 0), -1);
        }
        C.due("2 the 13th", x.name(0), -3);
        C.due("2 the 13th again", x.name(0), -3);
        C.due("2 twelve", x.count(0), 12);
    }

    /** "It is a SEED, or not: whether it was (1, 0). BAD." */
    private static void whoIsSeed() {
        for (int a : Place.outside(0, 5)) {
            S.due("3 seed " + a, Place::some, x -> x.seed(a, true), -1);
            S.due("3 no seed " + a, Place::some, x -> x.seed(a, false), -1);
        }
        S.due("3 the 13th", Place::full, x -> x.seed(12, true), -1);
        ManyNames x = Place.full();
        C.due("3 the first was", x.seed(0, false), 1);
        C.due("3 none is", x.count(1), 0);
        for (int a = 0; a < 12; a++) {
            C.due("3 was none", x.seed(a, true), 0);
            C.due("3 so many", x.count(1), a + 1);
        }
        C.due("3 the last was", x.seed(11, true), 1);
        S.due("3 it was, and stays", Place::some, y -> y.seed(0, true), 1);
        S.due("3 it was none, and stays", Place::some, y -> y.seed(5, false), 0);
    }

    /** "Coins (1 to 999) are pledged for it: its PLEDGE's ROOM then." */
    private static void coinsToTake() {
        ManyNames x = Place.withNames(0, 0);
        Place.tell(x, "pledge 100;");
        C.due("4 one coin", x.pledge(0, 1), 1);
        C.due("4 the most", x.pledge(0, 999), 1000);
        C.due("4 the last name", x.pledge(1, 999), 999);
        for (int i = 2; i <= 200; i++) {
            C.due("4 summed far above the bound of one", x.pledge(1, 999), 999 * i);
        }
        C.due("4 all of it", x.trust(1), 199800);
    }

    /** "BAD; STATE: it is MADE.": BAD ahead of STATE. */
    private static void coinsToRefuse() {
        for (int coins : Place.outside(1, 999)) {
            S.due("4 coins " + coins, Place::some, x -> x.pledge(1, coins), -1);
            S.due("4 coins for a made one " + coins, Place::some, x -> x.pledge(3, coins), -1);
        }
        for (int a : Place.outside(0, 5)) {
            S.due("4 no name " + a, Place::some, x -> x.pledge(a, 1), -1);
        }
        S.due("4 made", Place::some, x -> x.pledge(3, 1), -2);
        S.due("4 made", Place::some, x -> x.pledge(3, 999), -2);
    }

    /** "PLEDGE (coins, summed, times pledge by 100, divided down)" */
    private static void pledgesDividedDown() {
        ManyNames x = Place.withNames(0);
        C.due("4 0.9", x.pledge(0, 9), 0);
        C.due("4 0.9 is nothing", x.of(0, 5), 0);
        C.due("4 1.0: summed ahead of the division", x.pledge(0, 1), 1);
        C.due("4 1.9", x.pledge(0, 9), 1);
        C.due("4 2.0", x.pledge(0, 1), 2);
        Place.tell(x, "pledge 0;");
        C.due("4 no room for coins", x.pledge(0, 979), 0);
        Place.tell(x, "pledge 1;");
        C.due("4 9.99", x.of(0, 5), 9);
        C.due("4 10.0", x.pledge(0, 1), 10);
        Place.tell(x, "pledge 99;");
        C.due("4 990.99", x.pledge(0, 1), 990);
        Place.tell(x, "pledge 100;");
        C.due("4 all", x.of(0, 5), 1001);
    }

    /** "a MADE one gets nothing" */
    private static void pledgesOfMade() {
        ManyNames x = Place.withNames(0, 0);
        x.pledge(0, 999);
        x.seed(0, true);
        x.tie(0, 1, 999, 0);
        C.due("4 given", x.of(0, 5), 199);
        x.made(0);
        C.due("4 nothing", x.of(0, 5), 0);
        C.due("4 nothing comes to it", x.trust(0), 0);
        C.due("4 nor through it", x.heap(3), 0);
        C.due("4 nor is it given beyond a cut", x.cut(3, 2), 0);
        C.due("4 still a seed", x.count(1), 1);
    }

    /** "between two NAMES, told ROOM (1 to 999), a kind (0 met, 1 dealt, 2 said, 3 bought), the day when it came" */
    private static void tiesToTake() {
        ManyNames x = Place.withNames(0, 0, 0, 0, 0, 0, 0, 0, 0, 0, 0, 0);
        x.day(9999);
        C.due("5 the least room, the first kind", x.tie(0, 11, 1, 0), 0);
        C.due("5 the last room, the last kind", x.tie(11, 0, 999, 3), 1);
        C.due("5 the same two again", x.tie(0, 11, 1, 0), 2);
        int[] least = {0, 11, 1, 0, 9999, 1};
        int[] last = {11, 0, 999, 3, 9999, 0};
        for (int what = 0; what < 6; what++) {
            C.due("6 the least, " + what, x.tieOf(0, what), least[what]);
            C.due("6 the last, " + what, x.tieOf(1, what), last[what]);
            C.due("6 the same two, " + what, x.tieOf(2, what), least[what]);
        }
    }

    /** "BAD: also to itself" */
    private static void tiesToRefuse() {
        for (int a : Place.outside(0, 5)) {
            S.due("5 no first " + a, Place::some, x -> x.tie(a, 1, 1, 0), -1);
            S.due("5 no second " + a, Place::some, x -> x.tie(1, a, 1, 0), -1);
            S.due("5 neither " + a, Place::some, x -> x.tie(a, a, 1, 0), -1);
        }
        for (int a = 0; a < 6; a++) {
            int self = a;
            S.due("5 to itself " + a, Place::some, x -> x.tie(self, self, 1, 0), -1);
        }
        for (int room : Place.outside(1, 999)) {
            S.due("5 room " + room, Place::some, x -> x.tie(0, 1, room, 0), -1);
        }
        for (int kind : Place.outside(0, 3)) {
            S.due("5 kind " + kind, Place::some, x -> x.tie(0, 1, 1, kind), -1);
        }
    }

    /** "FULL", and "TIES (24) are numbered as they come" */
    private static void fullOfTies() {
        ManyNames x = Place.withNames(0, 0);
        for (int t = 0; t < 24; t++) {
            x.tie(0, 0, 1, 0);
            C.due("5 a refused one takes no number", x.tie(0, 1, t + 1, 0), t);
            C.due("6 the next is no tie yet", x.tieOf(t + 1, 0), -1);
            C.due("7 the next is no tie yet", x.renew(t + 1), -1);
        }
        C.due("5 the 25th", x.tie(0, 1, 1, 0), -3);
        C.due("6 the last", x.tieOf(23, 2), 24);
        S.due("5 the 25th", Place::full, y -> y.tie(0, 1, 1, 0), -3);
    }

    /** "STATE (the last of these): one of them is MADE" */
    private static void tiesOfMade() {
        S.due("5 made, the first", Place::some, x -> x.tie(3, 1, 1, 0), -2);
        S.due("5 made, the second", Place::some, x -> x.tie(1, 3, 999, 3), -2);
        S.due("5 made and room", Place::some, x -> x.tie(1, 3, 0, 0), -1);
        S.due("5 made and kind", Place::some, x -> x.tie(3, 1, 1, 4), -1);
        S.due("5 made and no name", Place::some, x -> x.tie(3, 6, 1, 0), -1);
        S.due("5 made to itself", Place::some, x -> x.tie(3, 3, 1, 0), -1);
        S.due("5 full ahead of made, the first", Place::full, x -> x.tie(11, 0, 1, 0), -3);
        S.due("5 full ahead of made, the second", Place::full, x -> x.tie(0, 11, 1, 0), -3);
        S.due("5 full and room", Place::full, x -> x.tie(0, 1, 1000, 0), -1);
        S.due("5 full and kind", Place::full, x -> x.tie(0, 1, 1, -1), -1);
        S.due("5 full and no name", Place::full, x -> x.tie(0, 12, 1, 0), -1);
        S.due("5 full and itself", Place::full, x -> x.tie(0, 0, 1, 0), -1);
        ManyNames x = Place.withNames(0, 0);
        x.made(0);
        x.made(1);
        C.due("5 both made", x.tie(0, 1, 1, 0), -2);
    }

    /** "Of a TIE: 0 and 1 its NAMES, .. 5 ROOM on THE DAY. BAD." */
    private static void whatOfTies() {
        for (int what : Place.outside(0, 5)) {
            S.due("6 what " + what, Place::some, x -> x.tieOf(0, what), -1);
        }
        for (int t : Place.outside(0, 5)) {
            S.due("6 no tie " + t, Place::some, x -> x.tieOf(t, 0), -1);
            S.due("6 no tie, for its room " + t, Place::some, x -> x.tieOf(t, 5), -1);
        }
        S.due("6 the 25th", Place::full, x -> x.tieOf(24, 0), -1);
        S.due("6 the first", Place::full, x -> x.tieOf(0, 2), 100);
        S.due("6 the last", Place::full, x -> x.tieOf(23, 2), 123);
    }

    /** "told ROOM times that of its kind by 100, divided down" */
    private static void kindsDividedDown() {
        ManyNames x = Place.withNames(0, 0);
        int[] rooms = {1, 2, 999};
        // By kinds: all; 80 of 100; 50 of 100; none.
        int[][] due = {{1, 2, 999}, {0, 1, 799}, {0, 1, 499}, {0, 0, 0}};
        for (int i = 0; i < 12; i++) {
            x.tie(0, 1, rooms[i % 3], i / 3);
            C.due("6 room " + rooms[i % 3] + " of kind " + i / 3, x.tieOf(i, 5), due[i / 3][i % 3]);
        }
        Place.tell(x, "met 0; dealt 100; said 1; bought 99;");
        int[][] told = {{0, 0, 0}, {1, 2, 999}, {0, 0, 9}, {0, 1, 989}};
        for (int i = 0; i < 12; i++) {
            C.due("6 room " + rooms[i % 3] + " of kind " + i / 3 + " as told", x.tieOf(i, 5), told[i / 3][i % 3]);
        }
    }

    /** "that times 100 less fade times its age by 100 (divided down; ..), by 100, divided down" */
    private static void fadesDividedDown() {
        ManyNames x = Place.withNames(0, 0);
        x.tie(0, 1, 999, 0);
        x.tie(0, 1, 9, 1);
        x.tie(0, 1, 1, 0);
        x.day(9);
        C.due("6 0.9 of 100 is none", x.tieOf(0, 5), 999);
        C.due("6 0.9 of 100 is none", x.tieOf(2, 5), 1);
        x.day(10);
        C.due("6 99 of 100 of 999: 989.01", x.tieOf(0, 5), 989);
        C.due("6 99 of 100 of 7 (of 7.2): 6.93", x.tieOf(1, 5), 6);
        C.due("6 99 of 100 of 1", x.tieOf(2, 5), 0);
        x.day(19);
        C.due("6 1.9 of 100 is one", x.tieOf(0, 5), 989);
        x.day(20);
        C.due("6 98 of 100 of 999: 979.02", x.tieOf(0, 5), 979);
    }

    /** "(..; 0 at least)" */
    private static void fadesToNought() {
        ManyNames x = Place.withNames(0, 0);
        x.tie(0, 1, 999, 0);
        x.day(990);
        C.due("6 1 of 100", x.tieOf(0, 5), 9);
        x.day(999);
        C.due("6 1 of 100 still", x.tieOf(0, 5), 9);
        x.day(1000);
        C.due("6 none", x.tieOf(0, 5), 0);
        x.day(1010);
        C.due("6 not below none", x.tieOf(0, 5), 0);
        Place.tell(x, "fade 100;");
        x.day(9999);
        C.due("6 far beyond", x.tieOf(0, 5), 0);
        C.due("6 nothing comes through it", x.heap(3), 0);
        Place.tell(x, "fade 0;");
        C.due("6 it never fades", x.tieOf(0, 5), 999);
        Place.tell(x, "fade 1;");
        C.due("6 1 of 100 for each 100 days: 99.99", x.tieOf(0, 5), 9);
        ManyNames y = Place.withNames(0, 0);
        Place.tell(y, "fade 100;");
        y.tie(0, 1, 999, 0);
        y.day(1);
        C.due("6 fade 100: 99 of 100", y.tieOf(0, 5), 989);
        y.day(99);
        C.due("6 fade 100: 1 of 100", y.tieOf(0, 5), 9);
        y.day(100);
        C.due("6 fade 100: none", y.tieOf(0, 5), 0);
        y.day(101);
        C.due("6 fade 100: none", y.tieOf(0, 5), 0);
    }

    /** "if one of its ends is FINED: half of that, divided down" */
    private static void halvesDividedDown() {
        ManyNames x = Place.withNames(0, 0, 0, 0);
        x.tie(0, 3, 10, 2);
        x.tie(1, 3, 10, 2);
        x.tie(0, 2, 1, 0);
        x.tie(2, 0, 2, 0);
        x.tie(2, 0, 3, 0);
        x.tie(0, 1, 999, 0);
        int[] whole = {1, 2, 3, 999};
        int[] half = {0, 1, 1, 499};
        for (int i = 0; i < 4; i++) {
            C.due("6 whole " + whole[i], x.tieOf(i + 2, 5), whole[i]);
        }
        x.made(3);
        for (int i = 0; i < 4; i++) {
            C.due("6 half of " + whole[i], x.tieOf(i + 2, 5), half[i]);
        }
        x.day(10);
        C.due("6 half of 2 (of 2.97), not 99 of 100 of half of 3", x.tieOf(4, 5), 1);
        x.day(99);
        C.due("6 the last fined day: half of 909", x.tieOf(5, 5), 454);
        x.day(100);
        C.due("6 forgotten: 90 of 100", x.tieOf(5, 5), 899);
        C.due("6 forgotten: 2 of 2.7", x.tieOf(4, 5), 2);
    }

    /** "0, if one of its ends is MADE" */
    private static void noRoomOfMade() {
        ManyNames x = Place.withNames(0, 0, 0);
        x.tie(0, 1, 999, 0);
        x.tie(1, 2, 999, 0);
        x.made(0);
        C.due("6 the first end", x.tieOf(0, 5), 0);
        C.due("6 neither end", x.tieOf(1, 5), 999);
        x.made(2);
        C.due("6 the second end", x.tieOf(1, 5), 0);
        C.due("6 told room stays", x.tieOf(1, 2), 999);
    }

    /** "A TIE is met, dealt anew: its day becomes THE DAY: the age that it had. BAD" */
    private static void renewing() {
        for (int t : Place.outside(0, 5)) {
            S.due("7 no tie " + t, Place::some, x -> x.renew(t), -1);
        }
        S.due("7 the 25th", Place::full, x -> x.renew(24), -1);
        ManyNames x = Place.withNames(0, 0);
        for (int kind = 0; kind < 4; kind++) {
            x.tie(0, 1, 100, kind);
            C.due("7 on its own day, kind " + kind, x.renew(kind), 0);
        }
        x.day(9999);
        for (int kind = 0; kind < 4; kind++) {
            C.due("7 the greatest age, kind " + kind, x.renew(kind), 9999);
            C.due("7 its day", x.tieOf(kind, 4), 9999);
            C.due("7 no age", x.renew(kind), 0);
        }
    }

    /** "STATE: one of its ends is MADE" */
    private static void renewingOfMade() {
        S.due("7 made, the second", Place::some, x -> x.renew(2), -2);
        S.due("7 made, the second", Place::some, x -> x.renew(3), -2);
        S.due("7 made, the first", Place::full, x -> x.renew(11), -2);
        C.due("7 fined is not made", Place.some().renew(1), 30);
    }

    /** "Of a NAME: 0 price, .. 6 how many TIES it has with ROOM above 0. BAD." */
    private static void whatOfNames() {
        for (int what : Place.outside(0, 6)) {
            S.due("8 what " + what, Place::some, x -> x.of(0, what), -1);
        }
        for (int what = 0; what < 7; what++) {
            int asked = what;
            for (int a : Place.outside(0, 5)) {
                S.due("8 no name " + a + ", " + what, Place::some, x -> x.of(a, asked), -1);
            }
            S.due("8 the 13th, " + what, Place::full, x -> x.of(12, asked), -1);
        }
        S.due("8 the last", Place::full, x -> x.of(11, 0), 999);
    }

    /** "5 ROOM that THE SOURCE gives it": a seed, a pledge, both, neither. */
    private static void givenByTheSource() {
        ManyNames x = Place.withNames(0, 0, 0, 0);
        Place.tell(x, "seed 1; pledge 1;");
        x.seed(0, true);
        x.pledge(1, 100);
        x.pledge(2, 99);
        x.seed(2, true);
        C.due("8 the least seed", x.of(0, 5), 1);
        C.due("8 the least pledge", x.of(1, 5), 1);
        C.due("8 a seed, a pledge of 0.99", x.of(2, 5), 1);
        C.due("8 neither", x.of(3, 5), 0);
        Place.tell(x, "seed 999; pledge 100;");
        C.due("8 the last seed", x.of(0, 5), 999);
        C.due("8 the last pledge", x.of(1, 5), 100);
        C.due("8 both", x.of(2, 5), 1098);
    }

    /** "6 how many TIES it has with ROOM above 0" */
    private static void tiesWithRoom() {
        ManyNames x = Place.withNames(0, 0, 0);
        for (int t = 0; t < 24; t++) {
            C.due("8 so many", x.of(0, 6), t);
            x.tie(t % 2, 1 - t % 2, 1, 0);
        }
        C.due("8 all", x.of(0, 6), 24);
        C.due("8 all, of the other end", x.of(1, 6), 24);
        C.due("8 none", x.of(2, 6), 0);
        C.due("36 all", x.count(5), 24);
        x.day(9);
        C.due("8 rooms of 1", x.of(0, 6), 24);
        x.day(10);
        C.due("8 rooms of 0", x.of(0, 6), 0);
        C.due("36 rooms of 0", x.count(5), 0);
        C.due("36 ties still", x.count(4), 24);
    }

    /** "It is judged MADE: .. BAD; STATE: it is so already." */
    private static void judgedOnce() {
        for (int a : Place.outside(0, 5)) {
            S.due("9 no name " + a, Place::some, x -> x.made(a), -1);
        }
        S.due("9 the 13th", Place::full, x -> x.made(12), -1);
        S.due("9 so already", Place::some, x -> x.made(3), -2);
        S.due("9 so already", Place::full, x -> x.made(11), -2);
        ManyNames x = Place.full();
        for (int a = 0; a < 11; a++) {
            x.made(a);
            C.due("9 so many", x.count(2), a + 2);
            C.due("9 for ever", x.made(a), -2);
        }
        C.due("9 all are made: nothing comes", x.heap(4095), 0);
    }

    /** "how many NAMES not MADE stand for it" */
    private static void whoStands() {
        ManyNames x = Place.withNames(0, 0, 0, 0, 0, 0, 0, 0, 0, 0, 0, 0);
        for (int a = 0; a < 11; a++) {
            x.tie(a, 11, 1, 2);
            x.tie(a, 11, 1, 2);
        }
        x.tie(11, 0, 1, 2);
        C.due("9 for the one that stands itself", x.made(0), 1);
        C.due("9 eleven, but the made one; each once", x.made(11), 10);
        C.due("9 the made one is not fined", x.of(0, 4), 0);
        C.due("9 all others, and 11 for 0", x.count(3), 11);
        C.due("9 none stand for it", x.made(5), 0);
        ManyNames y = Place.withNames(0, 0, 0, 0, 0);
        y.tie(0, 4, 1, 0);
        y.tie(1, 4, 1, 1);
        y.tie(2, 4, 1, 3);
        y.tie(4, 3, 1, 2);
        C.due("9 neither met, dealt nor bought, nor the other way", y.made(4), 0);
        C.due("9 none fined", y.count(3), 0);
        ManyNames z = Place.withNames(0, 0);
        z.tie(0, 1, 1, 2);
        z.day(9999);
        C.due("9 a said tie without room stands all the same", z.tieOf(0, 5), 0);
        C.due("9 a said tie without room stands all the same", z.made(1), 1);
    }

    /** "FINED: up to THE DAY and fine days (FINED on days ahead of that one)" and "(0: never)" */
    private static void finedUpToADay() {
        ManyNames x = Place.withNames(0, 0, 0);
        Place.tell(x, "fine 1;");
        x.tie(0, 1, 10, 2);
        C.due("8 never", x.of(0, 4), 0);
        C.due("8 not fined", x.of(0, 3), 0);
        x.made(1);
        C.due("9 on this day", x.of(0, 3), 1);
        C.due("9 up to the next", x.of(0, 4), 1);
        C.due("8 the other one never", x.of(2, 4), 0);
        C.due("36 fined", x.count(3), 1);
        x.day(1);
        C.due("9 not on that one", x.of(0, 3), 0);
        C.due("8 the day stays", x.of(0, 4), 1);
        C.due("36 none fined", x.count(3), 0);
        ManyNames y = Place.withNames(0, 0);
        Place.tell(y, "fine 0;");
        y.tie(0, 1, 10, 2);
        C.due("9 it stands for it", y.made(1), 1);
        C.due("9 no days: not fined", y.of(0, 3), 0);
        C.due("9 no days on day 0", y.of(0, 4), 0);
    }

    /** "or as it is, if that is later" */
    private static void finedOrAsItIs() {
        int[] again = {99, 100, 101, 0, 999};
        int[] due = {110, 110, 111, 110, 1009};
        for (int i = 0; i < again.length; i++) {
            ManyNames x = Place.withNames(0, 0, 0);
            x.tie(0, 1, 10, 2);
            x.tie(0, 2, 10, 2);
            x.day(10);
            x.made(1);
            C.due("9 up to", x.of(0, 4), 110);
            Place.tell(x, "fine " + again[i] + ";");
            C.due("9 what is told later leaves it", x.of(0, 4), 110);
            x.made(2);
            C.due("9 then with fine " + again[i], x.of(0, 4), due[i]);
        }
    }

    private static void finesOnTheLastDay() {
        ManyNames x = Place.withNames(0, 0);
        Place.tell(x, "fine 999;");
        x.tie(0, 1, 10, 2);
        x.day(9999);
        x.made(1);
        C.due("9 beyond the last day", x.of(0, 4), 10998);
        C.due("9 fined for good", x.of(0, 3), 1);
    }

    /** "THE DAY becomes d, not ahead of it: what it was. BAD." and "THE DAY (0 to 9999)" */
    private static void days() {
        S.due("10 the day again", Place::some, x -> x.day(50), 50);
        S.due("10 the one ahead", Place::some, x -> x.day(49), -1);
        S.due("10 the first again", ManyNames::new, x -> x.day(0), 0);
        S.due("10 the last again", Place::full, x -> x.day(9999), 9999);
        S.due("10 ahead of the last", Place::full, x -> x.day(9998), -1);
        for (int d : Place.outside(0, 9999)) {
            S.due("10 day " + d, ManyNames::new, x -> x.day(d), -1);
            S.due("10 day " + d, Place::some, x -> x.day(d), -1);
            S.due("10 day " + d, Place::full, x -> x.day(d), -1);
        }
        ManyNames x = new ManyNames();
        C.due("10 the next", x.day(1), 0);
        C.due("10 the last", x.day(9999), 1);
        C.due("36 the last", x.count(8), 9999);
    }
}
