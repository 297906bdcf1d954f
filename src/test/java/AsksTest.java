import java.util.function.Supplier;

/** Calls that only ask change nothing, whatever they are asked; and 512 calls are answered alike from first to last. */
public final class AsksTest {
    private static final Check C = new Check();
    private static final Still S = new Still(C);

    public static void main(String[] args) {
        asksChangeNothing("new", ManyNames::new);
        asksChangeNothing("some", Place::some);
        asksChangeNothing("full", Place::full);
        lastCallAsTheFirst();
        objectsApart();
        C.finish();
    }

    private static void asksChangeNothing(String state, Supplier<ManyNames> place) {
        for (int first : new int[] {0, 1, 5, 11, 63, -1, Integer.MAX_VALUE}) {
            for (int what = 0; what < 4; what++) {
                int asked = what;
                S.due(state + ": asked for " + first + ", " + what, place, x -> {
                    askOfNames(x, first, asked);
                    askOfWords(x, first, asked);
                    return 0;
                }, 0);
            }
        }
    }

    private static void askOfNames(ManyNames x, int first, int what) {
        x.tieOf(first, what + 2);
        x.of(first, what + 3);
        x.fault();
        x.rule(first);
        x.trust(first);
        x.heap(first);
        x.cut(first, what);
        x.low(what);
        x.twins(what);
        x.lost();
        x.count(first);
    }

    private static void askOfWords(ManyNames x, int first, int what) {
        x.wordOf(first, what + 2);
        x.weight(what, first);
        x.sayers(first);
        x.mark(first, what);
        x.span(first, what, 3 - what);
        x.ring(first, what);
        x.odds(first, what);
        x.oddest(what);
        x.gain(first, 50, 2);
        x.best(50, 2, what);
    }

    /** "An object is used for at most 512 calls": the 512th is answered as the first. */
    private static void lastCallAsTheFirst() {
        ManyNames x = new ManyNames();
        for (int call = 1; call <= 256; call++) {
            C.due("call " + (2 * call - 1), x.feed(0x6d65742037303b20L), 8);
            C.due("call " + 2 * call, x.rules(), 1);
        }
        ManyNames y = Place.withNames(0, 0);
        Place.tell(y, "pledge 100;");
        for (int call = 1; call <= 400; call++) {
            C.due("coins of " + call + " pledges", y.pledge(0, 999), 999 * call);
        }
        C.due("all coins", y.trust(0), 399600);
    }

    /** What is told to one object is not told to another one. */
    private static void objectsApart() {
        ManyNames x = new ManyNames();
        Place.some();
        Place.full();
        for (int what = 0; what < 10; what++) {
            C.due("1 nothing, " + what, x.count(what), 0);
        }
        C.due("1 rules as told at first", x.rule(0), 100);
        C.due("1 no fault", x.fault(), 0);
        C.due("1 nothing lost", x.lost(), 0);
        C.due("1 sheets of nothing", x.lay(0, 0, 0), -11);
    }
}
