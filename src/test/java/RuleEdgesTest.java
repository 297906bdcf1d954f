/** Promises 11 to 15: each sentence of the document that names an edge has a test here, with its words ahead of it. */
public final class RuleEdgesTest {
    private static final Check C = new Check();
    private static final Still S = new Still(C);
    private static final String[] NAMES =
        {"met", "dealt", "said", "bought", "fade", "word", "seed", "pledge", "fine", "good"};
    private static final int[] FIRST = {100, 80, 50, 0, 10, 20, 100, 10, 100, 8};
    private static final int[] LEAST = {0, 0, 0, 0, 0, 0, 1, 0, 0, 1};
    private static final int[] MOST = {100, 100, 100, 100, 100, 100, 999, 100, 999, 10};

    public static void main(String[] args) {
        bytesToTheLast();
        highestByteFirst();
        fullOfBytes();
        keepsItsFirst();
        keepsNoMore();
        everyByteAlone();
        everyByteBehindANumber();
        everyByteInAName();
        everyByteBetween();
        asLongAsMayBe();
        figures();
        boundsOfRules();
        namesThatAreNoRules();
        tokensThatCanNotStand();
        endsThatCanNotStand();
        outOfBounds();
        toldAlready();
        theFirstMet();
        noLines();
        tellsAll();
        emptyThen();
        placesToTheLast();
        faultOfTheLatest();
        whatHolds();
        C.finish();
    }

    /** The text is taken, with so many lines. */
    private static ManyNames taken(String text, int lines) {
        ManyNames x = new ManyNames();
        C.due("13 '" + text + "'", Place.tell(x, text), lines);
        C.due("14 '" + text + "'", x.fault(), 0);
        C.due("13 '" + text + "': the tape is empty", x.count(9), 0);
        return x;
    }

    /** The text has this fault at this place; what held before holds on, whatever was read ahead of the fault. */
    private static void refused(String text, int fault, int place) {
        ManyNames x = new ManyNames();
        Place.tell(x, "met 1;dealt 2;said 3;bought 4;fade 5;word 6;seed 7;pledge 8;fine 9;good 10;");
        C.due("13 '" + text + "'", Place.tell(x, text), -10 - place);
        C.due("14 '" + text + "'", x.fault(), fault);
        C.due("13 '" + text + "': the tape is empty", x.count(9), 0);
        for (int r = 0; r < 10; r++) {
            C.due("13 '" + text + "': what was told stays: " + NAMES[r], x.rule(r), r + 1);
        }
    }

    /** "Eight bytes come behind THE TAPE, ..: how many it has." */
    private static void bytesToTheLast() {
        ManyNames x = new ManyNames();
        for (int i = 1; i <= 25; i++) {
            C.due("11 eight more", x.feed(i), 8 * i);
            C.due("36 so many", x.count(9), 8 * i);
        }
        for (int length = 0; length <= 200; length++) {
            ManyNames y = new ManyNames();
            Place.write(y, " ".repeat(length));
            C.due("11 behind " + length, y.feed(0L), length <= 192 ? length + 8 : -3);
            C.due("36 behind " + length, y.count(9), length <= 192 ? length + 8 : length);
        }
    }

    /** "the highest first" */
    private static void highestByteFirst() {
        ManyNames x = new ManyNames();
        x.feed(0x6d65742038373635L);
        x.end(6);
        x.feed(0x3b20202020202020L);
        C.due("11 met 87, cut off, then ;", x.rules(), 1);
        C.due("11 met 87", x.rule(0), 87);
        for (int i = 0; i < 8; i++) {
            // One byte alone that is no token, at each of the eight places; the highest bit is no sign.
            x.feed(0x2020202020202020L | 0xffL << 56 - 8 * i);
            C.due("11 byte " + i, x.rules(), -10 - i);
            C.due("11 byte " + i, x.fault(), 1);
        }
        for (long v : new long[] {Long.MIN_VALUE, Long.MAX_VALUE, -1L, 0L}) {
            x.feed(v);
            C.due("11 no tokens", x.rules(), -10);
        }
    }

    /** "FULL: more than 200." */
    private static void fullOfBytes() {
        S.due("11 208", Place::full, x -> x.feed(0x3b3b3b3b3b3b3b3bL), -3);
        for (int length = 193; length <= 200; length++) {
            String text = "met 7;" + " ".repeat(length - 6);
            S.due("11 more than 200 behind " + length, () -> {
                ManyNames x = new ManyNames();
                Place.write(x, text);
                return x;
            }, x -> x.feed(0x3b3b3b3b3b3b3b3bL), -3);
        }
        ManyNames x = Place.full();
        x.feed(0L);
        C.due("11 none of the eight came", x.rules(), 1);
        C.due("11 and then there is room", x.feed(0L), 8);
    }

    /** "THE TAPE keeps its first n bytes: how many it had." */
    private static void keepsItsFirst() {
        ManyNames x = Place.full();
        C.due("12 all", x.end(200), 200);
        C.due("12 all but one", x.end(199), 200);
        C.due("12 so many", x.count(9), 199);
        C.due("12 the first", x.end(1), 199);
        C.due("12 none", x.end(0), 1);
        C.due("12 none of none", x.end(0), 0);
        S.due("12 all of it", Place::some, y -> y.end(15), 15);
        S.due("12 all of it", Place::full, y -> y.end(200), 200);
        ManyNames y = new ManyNames();
        Place.write(y, "met 7;fade 8;");
        y.end(6);
        C.due("12 the first ones", y.rules(), 1);
        C.due("12 the first ones", y.rule(0), 7);
        C.due("12 not the others", y.rule(4), 10);
    }

    /** "BAD." */
    private static void keepsNoMore() {
        for (int n : Place.outside(0, 0)) {
            S.due("12 n " + n, ManyNames::new, x -> x.end(n), -1);
        }
        for (int n : Place.outside(0, 15)) {
            S.due("12 n " + n, Place::some, x -> x.end(n), -1);
        }
        for (int n : Place.outside(0, 200)) {
            S.due("12 n " + n, Place::full, x -> x.end(n), -1);
        }
    }

    private static boolean isLetter(int b) {
        return b >= 'a' && b <= 'z';
    }

    private static boolean isFigure(int b) {
        return b >= '0' && b <= '9';
    }

    /** "TOKENS, .. blanks (32) between: NAMES (a .. z), NUMBERS (..), one ; ." and "1 no TOKEN" */
    private static void everyByteAlone() {
        for (int b = 0; b < 256; b++) {
            String text = "" + (char) b;
            if (b == ' ') {
                taken(text, 0);
            } else {
                refused(text, isFigure(b) || b == ';' ? 2 : 1, 0);
            }
        }
    }

    private static void everyByteBehindANumber() {
        for (int b = 0; b < 256; b++) {
            String text = "met 5" + (char) b;
            if (b == ';') {
                taken(text, 1);
            } else if (b == ' ' || isFigure(b)) {
                refused(text, 2, 6);
            } else {
                refused(text, 1, 5);
            }
        }
    }

    private static void everyByteInAName() {
        for (int b = 0; b < 256; b++) {
            String text = "me" + (char) b + " 5;";
            if (b == 't') {
                taken(text, 1);
            } else {
                refused(text, 1, 0);
            }
        }
    }

    /** "blanks (32) between": another byte is none, and none need be there. */
    private static void everyByteBetween() {
        for (int b = 0; b < 256; b++) {
            String text = "met" + (char) b + "5;";
            if (b == ' ') {
                C.due("13 told", taken(text, 1).rule(0), 5);
            } else if (isFigure(b)) {
                C.due("13 told", taken(text, 1).rule(0), 10 * (b - '0') + 5);
            } else {
                refused(text, b == ';' ? 2 : 1, isLetter(b) ? 0 : 3);
            }
        }
        taken("met5;dealt6;", 2);
        taken("  met  5  ;  dealt  6  ;  ", 2);
    }

    /** "each as long as may be" */
    private static void asLongAsMayBe() {
        refused("metmet 5;", 1, 0);
        refused("m et 5;", 1, 0);
        refused("met 1 2;", 2, 6);
        refused("met 12 34;", 2, 7);
        refused("goo d 5;", 1, 0);
        refused("a".repeat(200), 1, 0);
        refused(" " + "a".repeat(199), 1, 1);
        refused("9".repeat(200), 1, 0);
        refused("met" + "0".repeat(197), 1, 3);
    }

    /** "NUMBERS (1 to 4 figures)" and "1 .. a NUMBER that is too long (its first byte)" */
    private static void figures() {
        C.due("13 one", taken("fine 7;", 1).rule(8), 7);
        C.due("13 two", taken("fine 07;", 1).rule(8), 7);
        C.due("13 three", taken("fine 987;", 1).rule(8), 987);
        C.due("13 four", taken("fine 0987;", 1).rule(8), 987);
        C.due("13 four", taken("fine 0000;", 1).rule(8), 0);
        refused("fine 00987;", 1, 5);
        refused("fine 00000;", 1, 5);
        refused("fine 12345;", 1, 5);
        refused("fine   12345", 1, 7);
        // As a number of 32 or of 64 bits it would be small again.
        refused("fine 4294967297;", 1, 5);
        refused("fine 18446744073709551617;", 1, 5);
        // Where no number can stand its length is seen first.
        refused("12345", 1, 0);
        refused("met 5 12345", 1, 6);
        refused("met 5;12345", 1, 6);
    }

    /** "(0 to 100)", "(1 to 999)", "(0 to 999)", "(1 to 10)" and "3 a NUMBER out of its bounds" */
    private static void boundsOfRules() {
        for (int r = 0; r < 10; r++) {
            int place = NAMES[r].length() + 1;
            for (int told : new int[] {LEAST[r], LEAST[r] + 1, MOST[r] - 1, MOST[r]}) {
                ManyNames x = taken(NAMES[r] + " " + told + ";", 1);
                for (int other = 0; other < 10; other++) {
                    C.due("15 " + NAMES[other], x.rule(other), other == r ? told : FIRST[other]);
                }
            }
            refused(NAMES[r] + " " + (MOST[r] + 1) + ";", 3, place);
            refused(NAMES[r] + " 9999;", 3, place);
            if (LEAST[r] > 0) {
                refused(NAMES[r] + " 0;", 3, place);
                refused(NAMES[r] + " 0000;", 3, place);
            }
        }
    }

    /** "1 .. a NAME that is no RULE" */
    private static void namesThatAreNoRules() {
        for (String name : NAMES) {
            refused(name.substring(1) + " 5;", 1, 0);
            refused(name.substring(0, name.length() - 1) + " 5;", 1, 0);
            refused(name + "s 5;", 1, 0);
            refused("a" + name + " 5;", 1, 0);
            for (int i = 0; i < name.length(); i++) {
                refused(name.substring(0, i) + "z" + name.substring(i + 1) + " 5;", 1, 0);
            }
            refused(name.toUpperCase() + " 5;", 1, 0);
            refused("met 5;  " + name.charAt(0) + " 5;", 1, 8);
        }
        refused("trust 5;", 1, 0);
        // It is seen as it is read, where another token should stand too.
        refused("met trust;", 1, 4);
        refused("met 5 trust;", 1, 6);
    }

    /** "2 a TOKEN that can not stand there" */
    private static void tokensThatCanNotStand() {
        refused("5;", 2, 0);
        refused(";", 2, 0);
        refused("   ;", 2, 3);
        refused("met;", 2, 3);
        refused("met dealt 5;", 2, 4);
        refused("met met 5;", 2, 4);
        refused("met 5 5;", 2, 6);
        refused("met 5 dealt;", 2, 6);
        refused("met 5 met;", 2, 6);
        refused("met 5;;", 2, 6);
        refused("met 5;6;", 2, 6);
        refused("met 5; ;", 2, 7);
        // Out of all bounds, but no number can stand there at all.
        refused("9999", 2, 0);
        refused("met 5 9999", 2, 6);
    }

    /** "(or the end: the length)" */
    private static void endsThatCanNotStand() {
        refused("met", 2, 3);
        refused("met ", 2, 4);
        refused("met    ", 2, 7);
        refused("met 5", 2, 5);
        refused("met 5 ", 2, 6);
        refused("met 5;dealt", 2, 11);
        refused("met 5;dealt 5  ", 2, 15);
        ManyNames x = new ManyNames();
        Place.write(x, "met 5;");
        x.end(5);
        C.due("13 the end is where the tape was cut", x.rules(), -15);
        C.due("14 the end", x.fault(), 2);
        Place.write(x, "met 55;");
        x.end(2);
        C.due("13 a name that was cut", x.rules(), -10);
        C.due("14 a name that was cut", x.fault(), 1);
    }

    /** "3 a NUMBER out of its bounds": met ahead of what comes behind it. */
    private static void outOfBounds() {
        refused("met 101", 3, 4);
        refused("met 101#", 3, 4);
        refused("met 101 dealt", 3, 4);
        refused("met 101;met 5;", 3, 4);
        refused("dealt 5;met 101;", 3, 12);
        refused("good11;", 3, 4);
    }

    /** "4 a RULE that is told already (its NAME)" */
    private static void toldAlready() {
        for (String name : NAMES) {
            int behind = name.length() + 3;
            refused(name + " 5;" + name + " 5;", 4, behind);
            refused(name + " 5;" + name + " 9999;", 4, behind);
            refused(name + " 5; " + name, 4, behind + 1);
            refused(name + " 5;" + name + " #", 4, behind);
        }
        refused("met 5;dealt 5;said 5;bought 5;fade 5;word 5;seed 5;pledge 5;fine 5;good 5;good 5;", 4, 74);
        refused("good 5;fine 5;pledge 5;seed 5;word 5;fade 5;bought 5;said 5;dealt 5;met 5;good 5;", 4, 74);
        ManyNames x = taken("met 5;", 1);
        C.due("13 another text may tell it again", Place.tell(x, "met 6;"), 1);
        C.due("15 met", x.rule(0), 6);
    }

    /** "FAULTS, the first met as it is read (a TOKEN is read when the one before has been taken)" */
    private static void theFirstMet() {
        refused("met 5 6 #", 2, 6);
        refused("met #;met 101", 1, 4);
        refused("trust 101;", 1, 0);
        refused("met 5;trust 101;", 1, 6);
        refused("met 101;trust 5;", 3, 4);
        refused("met 5;met 101;", 4, 6);
        refused("met met", 2, 4);
    }

    /** "text: { line }": of no lines too; "how many lines" */
    private static void noLines() {
        taken("", 0);
        taken(" ", 0);
        taken(" ".repeat(200), 0);
        StringBuilder text = new StringBuilder();
        for (int lines = 1; lines <= 10; lines++) {
            text.append(NAMES[10 - lines]).append(" 5;");
            taken(text.toString(), lines);
        }
    }

    /** "What is not told: met 100, dealt 80, .. A text that is taken tells all." */
    private static void tellsAll() {
        for (int told = 0; told < 10; told++) {
            ManyNames x = taken("met 1;dealt 2;said 3;bought 4;fade 5;word 6;seed 7;pledge 8;fine 9;good 10;", 10);
            C.due("13 one line", Place.tell(x, NAMES[told] + " 6;"), 1);
            for (int r = 0; r < 10; r++) {
                C.due("15 " + NAMES[r] + " behind " + NAMES[told], x.rule(r), r == told ? 6 : FIRST[r]);
            }
            Place.tell(x, "");
            C.due("15 " + NAMES[told] + " behind no lines", x.rule(told), FIRST[told]);
        }
    }

    /** "THE TAPE (empty then) tells the rules": it is empty behind a fault too, and nothing else has changed. */
    private static void emptyThen() {
        S.due("13 a fault changes the tape alone", () -> {
            ManyNames x = Place.some();
            Place.tell(x, "#");
            return x;
        }, x -> {
            Place.write(x, "#");
            return x.rules();
        }, -10);
        ManyNames x = Place.full();
        C.due("13 of 200 bytes", x.rules(), 1);
        C.due("36 none left", x.count(9), 0);
        C.due("12 none left", x.end(1), -1);
        C.due("13 again", x.rules(), 0);
        C.due("15 fine as at first", x.rule(8), 100);
    }

    /** "THE TAPE has 200 bytes, places from 0" and "-10 less the place of its FAULT" */
    private static void placesToTheLast() {
        for (int at = 0; at < 200; at++) {
            refused(" ".repeat(at) + "#", 1, at);
            refused(" ".repeat(at) + ";", 2, at);
        }
        refused(" ".repeat(199) + "a", 1, 199);
        refused(" ".repeat(199) + "5", 2, 199);
        refused(" ".repeat(197) + "met", 2, 200);
        refused(" ".repeat(195) + "met 5", 2, 200);
        refused(" ".repeat(195) + "met;5", 2, 198);
        refused(" ".repeat(193) + "met 101", 3, 197);
        refused("met 5;" + " ".repeat(191) + "met", 4, 197);
        C.due("13 to the last byte", taken(" ".repeat(194) + "met 5;", 1).rule(0), 5);
        C.due("13 all over", taken("met" + " ".repeat(195) + "5;", 1).rule(0), 5);
    }

    /** "The FAULT of the latest rules(); 0." */
    private static void faultOfTheLatest() {
        ManyNames x = new ManyNames();
        C.due("14 none yet", x.fault(), 0);
        String[] texts = {"#", ";", "met 101;", "met 5;met 5;"};
        for (int fault = 1; fault <= 4; fault++) {
            Place.tell(x, texts[fault - 1]);
            C.due("14 fault " + fault, x.fault(), fault);
            x.feed(0L);
            x.feed(0L);
            x.end(17);
            x.end(0);
            C.due("14 no rules() since", x.fault(), fault);
        }
        C.due("13 no lines", x.rules(), 0);
        C.due("14 none", x.fault(), 0);
        S.due("14 asking changes nothing", Place::some, ManyNames::fault, 3);
    }

    /** "What holds: 0 met, .. 9 good. BAD." */
    private static void whatHolds() {
        for (int what : Place.outside(0, 9)) {
            S.due("15 what " + what, Place::some, x -> x.rule(what), -1);
        }
        int[] some = {90, 80, 60, 40, 10, 20, 100, 10, 30, 8};
        for (int what = 0; what < 10; what++) {
            int asked = what;
            S.due("15 what " + what, Place::some, x -> x.rule(asked), some[what]);
        }
    }
}
