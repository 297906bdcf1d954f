/** Promises 16 to 20: trust as a flow, the cut, the lowest, the twins. */
public final class TrustTest {
    private static final Check C = new Check();

    public static void main(String[] args) {
        trustAlone();
        bothWays();
        turnsBack();
        heaps();
        cuts();
        cutOfPledges();
        roomsOfOne();
        lowest();
        twins();
        twinsAreTheMost();
        C.finish();
    }

    private static void trustAlone() {
        ManyNames x = Place.withNames(0, 0, 0, 0);
        x.seed(0, true);
        x.tie(0, 1, 30, 0);
        x.tie(0, 1, 25, 0);
        x.tie(1, 2, 90, 0);
        C.due("16 a seed", x.trust(0), 100);
        C.due("16 two ties", x.trust(1), 55);
        C.due("16 behind them", x.trust(2), 55);
        C.due("16 no tie", x.trust(3), 0);
        C.due("16 no name", x.trust(4), -1);
        C.due("16 no name", x.trust(-1), -1);
        x.pledge(2, 300);
        C.due("16 a pledge", x.trust(2), 85);
        C.due("16 the pledge runs on", x.trust(1), 85);
        Place.tell(x, "seed 20; pledge 100;");
        C.due("16 by rules", x.trust(1), 20 + 90);
        x.made(1);
        C.due("16 made", x.trust(1), 0);
        C.due("16 behind a made one", x.trust(2), 300);
        x.seed(0, false);
        C.due("16 no seed", x.trust(0), 0);
    }

    private static void bothWays() {
        ManyNames x = Place.withNames(0, 0, 0);
        x.seed(2, true);
        x.tie(0, 1, 30, 0);
        x.tie(1, 2, 40, 0);
        C.due("16 from the second end to the first", x.trust(0), 30);
        C.due("16 from the second end to the first", x.trust(1), 40);
    }

    /** The shortest way 0-1-4-5 must be given back in part: 0-1-3-5 and 0-2-4-5. */
    private static void turnsBack() {
        ManyNames x = Place.withNames(0, 0, 0, 0, 0, 0, 0);
        x.seed(0, true);
        x.tie(0, 1, 10, 0);
        x.tie(1, 4, 10, 0);
        x.tie(4, 5, 10, 0);
        x.tie(0, 2, 10, 0);
        x.tie(2, 6, 10, 0);
        x.tie(6, 4, 10, 0);
        x.tie(1, 3, 10, 0);
        x.tie(3, 5, 10, 0);
        C.due("16 two ways", x.trust(5), 20);
    }

    private static void heaps() {
        ManyNames x = Place.withNames(0, 0, 0, 0);
        x.seed(0, true);
        x.tie(0, 1, 10, 0);
        x.tie(1, 2, 50, 0);
        x.tie(1, 3, 50, 0);
        x.tie(0, 3, 4, 0);
        C.due("17 nothing", x.heap(0), 0);
        C.due("17 one", x.heap(4), 14);
        C.due("17 two behind one thin place", x.heap(12), 14);
        C.due("17 with the seed", x.heap(9), 100);
        C.due("17 all", x.heap(15), 100);
        C.due("17 beyond", x.heap(16), -1);
        C.due("17 below", x.heap(-1), -1);
        x.pledge(2, 50);
        C.due("17 a pledge within", x.heap(12), 19);
        C.due("17 all", x.heap(15), 105);
        ManyNames y = Place.withNames(0, 0, 0, 0, 0, 0, 0, 0, 0, 0, 0, 0);
        for (int a = 0; a < 12; a++) {
            y.pledge(a, 100);
        }
        C.due("17 all twelve", y.heap(4095), 120);
        C.due("17 beyond twelve", y.heap(4096), -1);
    }

    private static void cuts() {
        ManyNames x = Place.withNames(0, 0, 0, 0, 0);
        x.seed(0, true);
        x.tie(0, 1, 10, 0);
        x.tie(1, 2, 10, 0);
        x.tie(2, 3, 10, 0);
        x.tie(0, 4, 7, 3);
        C.due("18 the least of several sets", x.cut(8, 0), 1);
        C.due("18 its ties, none without room", x.cut(8, 1), 1);
        C.due("18 given beyond", x.cut(8, 2), 0);
        x.renew(0);
        x.tie(0, 1, 5, 0);
        C.due("18 further out now", x.cut(8, 0), 3);
        C.due("18 its tie", x.cut(8, 1), 2);
        C.due("18 the heap holds the seed", x.cut(1, 0), 0);
        C.due("18 no ties of it", x.cut(1, 1), 0);
        C.due("18 all is beyond", x.cut(1, 2), 100);
        C.due("18 all names", x.cut(31, 2), 100);
        C.due("18 a heap of none", x.cut(0, 0), -1);
        C.due("18 no name", x.cut(32, 0), -1);
        C.due("18 below", x.cut(-8, 0), -1);
        C.due("18 what", x.cut(8, 3), -1);
        C.due("18 what", x.cut(8, -1), -1);
        x.seed(0, false);
        C.due("18 nothing is given: no names", x.cut(8, 0), 0);
    }

    private static void cutOfPledges() {
        ManyNames x = Place.withNames(0, 0, 0);
        x.seed(0, true);
        x.pledge(1, 50);
        x.pledge(2, 40);
        x.tie(0, 1, 60, 0);
        x.tie(0, 2, 3, 0);
        C.due("18 names", x.cut(6, 0), 1);
        C.due("18 two ties", x.cut(6, 1), 3);
        C.due("18 given beyond", x.cut(6, 2), 9);
        C.due("18 of one: the other is within", x.cut(4, 0), 3);
        C.due("18 its tie", x.cut(4, 1), 2);
        C.due("18 given beyond", x.cut(4, 2), 4);
    }

    /** The least rooms there are still let something through. */
    private static void roomsOfOne() {
        ManyNames x = Place.withNames(0, 0, 0);
        x.seed(0, true);
        x.tie(0, 1, 1, 0);
        x.tie(2, 1, 1, 0);
        x.tie(1, 2, 1, 0);
        C.due("16 one", x.trust(1), 1);
        C.due("16 one", x.trust(2), 1);
        C.due("18 its tie", x.cut(4, 1), 1);
        C.due("8 its ties", x.of(1, 6), 3);
        C.due("36 ties", x.count(5), 3);
        C.due("20 one less", x.twins(0), 16 + 2);
        C.due("20 one less", x.twins(1), 1);
        x.pledge(1, 50);
        C.due("16 two ties side by side, told either way", x.trust(2), 2);
        x.pledge(2, 50);
        C.due("16 two ties side by side, told either way", x.trust(1), 1 + 5 + 2);
    }

    private static void lowest() {
        ManyNames x = new ManyNames();
        C.due("19 none", x.low(0), -4);
        C.due("19 none", x.low(1), -4);
        C.due("19 what", x.low(2), -1);
        C.due("19 what", x.low(-1), -1);
        x.name(0);
        x.seed(0, true);
        C.due("19 seeds alone", x.low(0), -4);
        x.name(0);
        x.name(0);
        x.name(0);
        x.tie(0, 1, 9, 0);
        x.tie(0, 2, 5, 0);
        x.tie(0, 3, 5, 0);
        C.due("19 of several the least number", x.low(0), 2);
        C.due("19 its trust", x.low(1), 5);
        x.seed(0, false);
        C.due("19 the first one", x.low(0), 0);
        x.seed(0, true);
        x.made(2);
        C.due("19 no made one", x.low(0), 3);
        x.seed(3, true);
        C.due("19 no seed", x.low(0), 1);
        C.due("19 its trust", x.low(1), 9);
    }

    private static void twins() {
        ManyNames x = Place.withNames(0, 0);
        C.due("20 what", x.twins(2), -1);
        C.due("20 what", x.twins(-1), -1);
        C.due("20 none have less", x.twins(0), -4);
        C.due("20 none have less", x.twins(1), -4);
        x.pledge(0, 100);
        x.pledge(1, 100);
        C.due("20 none have less", x.twins(0), -4);
        x.tie(0, 1, 3, 0);
        C.due("20 twins", x.twins(0), 1);
        C.due("20 how much", x.twins(1), 6);
        x.seed(1, true);
        C.due("20 no seed", x.twins(0), -4);
        x.seed(1, false);
        x.made(0);
        C.due("20 no made one", x.twins(0), -4);
        C.due("20 a new one alone", new ManyNames().twins(1), -4);
    }

    private static void twinsAreTheMost() {
        ManyNames x = Place.withNames(0, 0, 0, 0, 0);
        x.seed(0, true);
        x.tie(0, 1, 10, 0);
        x.tie(0, 2, 20, 0);
        x.tie(2, 3, 15, 0);
        x.tie(2, 4, 15, 0);
        C.due("20 2 with 3 (15 of 35), 2 with 4; 3 with 4 lose 10", x.twins(1), 15);
        C.due("20 of several the least", x.twins(0), 16 * 2 + 3);
        x.tie(0, 3, 40, 0);
        C.due("20 now 2 with 3", x.twins(0), 35);
        C.due("20 35 and 55 of 60", x.twins(1), 30);
    }
}
