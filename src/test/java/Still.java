import java.util.ArrayList;
import java.util.List;
import java.util.function.Supplier;

/**
 * Holds an object that was asked something against its twin that was not: all that can be asked of the two must be the
 * same. A look at all would take more calls than an object is promised for, so each part is looked at on new ones.
 */
final class Still {
    interface Call {
        long ask(ManyNames x);
    }

    private static final String[] PARTS = {"counts and rules", "names", "ties", "words", "the tape", "sheets", "what comes behind"};

    private final Check check;

    Still(Check check) {
        this.check = check;
    }

    /** The call answers this, and changes nothing. */
    void due(String what, Supplier<ManyNames> place, Call call, long answer) {
        check.due(what, call.ask(place.get()), answer);
        for (int part = 0; part < PARTS.length; part++) {
            ManyNames asked = place.get();
            call.ask(asked);
            check.isTrue(what + " changes nothing of " + PARTS[part], look(asked, part).equals(look(place.get(), part)));
        }
    }

    private static List<Long> look(ManyNames x, int part) {
        List<Long> seen = new ArrayList<>();
        switch (part) {
            case 0:
                lookAtCounts(x, seen);
                break;
            case 1:
                lookAtNames(x, seen);
                break;
            case 2:
                for (int t = 0; t < x.count(4); t++) {
                    for (int what = 0; what < 6; what++) {
                        seen.add((long) x.tieOf(t, what));
                    }
                }
                break;
            case 3:
                lookAtWords(x, seen);
                break;
            case 4:
                lookAtTape(x, seen);
                break;
            case 5:
                lookAtSheets(x, seen);
                break;
            default:
                lookBehind(x, seen);
        }
        return seen;
    }

    private static void lookAtCounts(ManyNames x, List<Long> seen) {
        for (int what = 0; what < 11; what++) {
            seen.add((long) x.count(what));
        }
        lookAtRules(x, seen);
        seen.add((long) x.lost());
        for (int what = 0; what < 3; what++) {
            seen.add((long) x.low(what));
            seen.add((long) x.twins(what));
            seen.add(x.oddest(what));
            seen.add((long) x.best(50, 3, what));
        }
    }

    private static void lookAtRules(ManyNames x, List<Long> seen) {
        seen.add((long) x.fault());
        for (int what = 0; what < 10; what++) {
            seen.add((long) x.rule(what));
        }
    }

    private static void lookAtNames(ManyNames x, List<Long> seen) {
        for (int a = 0; a < x.count(0); a++) {
            for (int what = 0; what < 7; what++) {
                seen.add((long) x.of(a, what));
            }
            seen.add((long) x.trust(a));
            seen.add((long) x.sayers(a));
            seen.add((long) x.mark(a, 0));
            seen.add((long) x.mark(a, 1));
            seen.add((long) x.span(a, 1, 2));
        }
    }

    private static void lookAtWords(ManyNames x, List<Long> seen) {
        for (int w = 0; w < x.count(6); w++) {
            for (int what = 0; what < 6; what++) {
                seen.add((long) x.wordOf(w, what));
            }
        }
    }

    /** What lies on the tape is seen by telling it. */
    private static void lookAtTape(ManyNames x, List<Long> seen) {
        seen.add((long) x.rules());
        lookAtRules(x, seen);
    }

    /** What lies on the sheets is seen by reading it: the words that come, and what is refused; and where they end. */
    private static void lookAtSheets(ManyNames x, List<Long> seen) {
        int[] ends = {0, 1, 4, 5, 8, 47, 48};
        for (int k = 0; k < 4; k++) {
            for (int lane = 0; lane < 3; lane++) {
                seen.add((long) x.read(k, lane, 0, 12));
                seen.add((long) x.lost());
            }
            for (int i : ends) {
                seen.add((long) x.lay(k, i, 0));
            }
        }
        lookAtWords(x, seen);
    }

    /** What comes to the next places is new: nothing lies there from a call that was refused. */
    private static void lookBehind(ManyNames x, List<Long> seen) {
        int a = x.name(4);
        int b = x.name(5);
        int t = x.tie(b, 0, 50, 2);
        int w = x.word(b, 0, 98, 9);
        for (int what = 0; what < 7; what++) {
            seen.add((long) x.of(a, what));
            seen.add((long) x.of(b, what));
            seen.add((long) x.tieOf(t, what));
            seen.add((long) x.wordOf(w, what));
        }
        for (int k = 0; k < 4; k++) {
            x.sheet(k, k % 3, 4);
            x.lay(k, 0, 1);
            seen.add((long) x.read(k, k % 3, 0, 1));
        }
        lookAtWords(x, seen);
        x.feed(0x6d65742037303b20L);
        lookAtTape(x, seen);
    }
}
