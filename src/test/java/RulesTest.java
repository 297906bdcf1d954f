/** Promises 11 to 15: the tape, the rules told in a text. */
public final class RulesTest {
    private static final Check C = new Check();

    public static void main(String[] args) {
        feeding();
        ending();
        highestFirst();
        taken();
        notToldAtFirst();
        bounds();
        faults();
        faultsKeepRules();
        whatIsCutOff();
        fullTape();
        ruleNumbers();
        C.finish();
    }

    private static void feeding() {
        ManyNames x = new ManyNames();
        for (int i = 1; i <= 25; i++) {
            C.due("11 feed", x.feed(-1L), 8 * i);
        }
        C.due("11 full", x.feed(0L), -3);
        C.due("11 count", x.count(9), 200);
        x.end(193);
        C.due("11 full, 201", x.feed(0L), -3);
        x.end(192);
        C.due("11 200", x.feed(0L), 200);
    }

    private static void ending() {
        ManyNames x = new ManyNames();
        C.due("12 below", x.end(-1), -1);
        C.due("12 beyond", x.end(1), -1);
        C.due("12 nothing", x.end(0), 0);
        x.feed(0L);
        C.due("12 beyond", x.end(9), -1);
        C.due("12 all", x.end(8), 8);
        C.due("12 some", x.end(3), 8);
        C.due("12 fewer", x.end(4), -1);
        C.due("12 count", x.count(9), 3);
    }

    private static void highestFirst() {
        ManyNames x = new ManyNames();
        // "met", blank, "5;", two blanks: m is the highest byte.
        x.feed(0x6d657420353b2020L);
        C.due("11 the highest byte first", x.rules(), 1);
        C.due("11 told", x.rule(0), 5);
        // Bytes above 127 are no tokens, whatever their sign.
        x.feed(0xed00000000000000L);
        C.due("11 high bytes", x.rules(), -10);
        C.due("11 high bytes", x.fault(), 1);
    }

    private static void taken() {
        ManyNames x = new ManyNames();
        C.due("13 all", Place.tell(x, "met 1;dealt 2;said 3;bought 4;fade 5;word 6;seed 7;pledge 8;fine 9;good 10;"), 10);
        for (int r = 0; r < 10; r++) {
            C.due("13 told " + r, x.rule(r), r + 1);
        }
        C.due("13 the tape is empty", x.count(9), 0);
        C.due("14 none", x.fault(), 0);
        C.due("13 an 11th line is told already", Place.tell(x,
            "met 1;dealt 2;said 3;bought 4;fade 5;word 6;seed 7;pledge 8;fine 9;good 10; met 1;"), -10 - 76);
        C.due("14 told already", x.fault(), 4);
        C.due("13 other order, no blanks", Place.tell(x, "good7;met0050;"), 2);
        C.due("13 told", x.rule(0), 50);
        C.due("13 told", x.rule(9), 7);
        C.due("13 blanks", Place.tell(x, "   seed   999   ;   "), 1);
        C.due("13 told", x.rule(6), 999);
    }

    private static void notToldAtFirst() {
        ManyNames x = new ManyNames();
        Place.tell(x, "met 1; fine 2;");
        C.due("13 again", Place.tell(x, "fine 3;"), 1);
        C.due("13 what is not told is as at first", x.rule(0), 100);
        C.due("13 what is told", x.rule(8), 3);
        C.due("13 an empty text", Place.tell(x, ""), 0);
        C.due("13 tells all", x.rule(8), 100);
        Place.tell(x, "fine 3;");
        C.due("13 blanks alone", Place.tell(x, "  "), 0);
        C.due("13 tell all", x.rule(8), 100);
    }

    private static void bounds() {
        String[] names = {"met", "dealt", "said", "bought", "fade", "word", "seed", "pledge", "fine", "good"};
        int[] least = {0, 0, 0, 0, 0, 0, 1, 0, 0, 1};
        int[] most = {100, 100, 100, 100, 100, 100, 999, 100, 999, 10};
        for (int r = 0; r < 10; r++) {
            ManyNames x = new ManyNames();
            C.due("13 least of " + names[r], Place.tell(x, names[r] + " " + least[r] + ";"), 1);
            C.due("13 least of " + names[r], x.rule(r), least[r]);
            C.due("13 most of " + names[r], Place.tell(x, names[r] + " " + most[r] + ";"), 1);
            C.due("13 most of " + names[r], x.rule(r), most[r]);
            int place = -10 - names[r].length() - 1;
            fault(names[r] + " " + (most[r] + 1) + ";", place, 3);
            if (least[r] == 1) {
                fault(names[r] + " 0;", place, 3);
            }
        }
    }

    private static void fault(String text, int answer, int kind) {
        ManyNames x = new ManyNames();
        C.due("13 '" + text + "'", Place.tell(x, text), answer);
        C.due("14 '" + text + "'", x.fault(), kind);
        C.due("13 the tape is empty", x.count(9), 0);
    }

    private static void faults() {
        fault("#", -10, 1);
        fault("  met 5,", -17, 1);
        fault("Met 5;", -10, 1);
        fault("mets 5;", -10, 1);
        fault("me 5;", -10, 1);
        fault("bet 5;", -10, 1);
        fault("mat 5;", -10, 1);
        fault("metdealt 5;", -10, 1);
        fault("met 12345;", -14, 1);
        fault("met 00005;", -14, 1);
        fault("met\t5;", -13, 1);
        fault("met 5;\n", -16, 1);
        // A name that is no rule is found as it is read, wherever it stands.
        fault("met foo;", -14, 1);
        fault("met 5 foo", -16, 1);
        fault("foo", -10, 1);
        fault("12345", -10, 1);
        fault("5", -10, 2);
        fault(";", -10, 2);
        fault(" ;", -11, 2);
        fault("met", -13, 2);
        fault("met  ", -15, 2);
        fault("met;", -13, 2);
        fault("met met 5;", -14, 2);
        fault("met 5", -15, 2);
        fault("met 5  ", -17, 2);
        fault("met 5 5;", -16, 2);
        fault("met 5 dealt 5;", -16, 2);
        fault("met 5;;", -16, 2);
        fault("met 5;5;", -16, 2);
        // A number out of its bounds is met ahead of what comes behind it.
        fault("met 101", -14, 3);
        fault("met 101 #", -14, 3);
        fault("met 9999;", -14, 3);
        fault("met 5;met 6;", -16, 4);
        fault("met 5;  met", -18, 4);
        fault("met 5;dealt 5;met 101;", -24, 4);
        fault("met 5;met #", -16, 4);
    }

    private static void faultsKeepRules() {
        ManyNames x = new ManyNames();
        Place.tell(x, "met 11; good 3;");
        C.due("13 a fault behind a good line", Place.tell(x, "met 22; dealt 33; good 11;"), -33);
        C.due("13 stays", x.rule(0), 11);
        C.due("13 stays", x.rule(1), 80);
        C.due("13 stays", x.rule(9), 3);
        C.due("14 fault", x.fault(), 3);
        C.due("14 fault again", x.fault(), 3);
        C.due("13 empty then", x.rules(), 0);
        C.due("14 the latest one", x.fault(), 0);
    }

    /** Bytes behind the end are no part of a token. */
    private static void whatIsCutOff() {
        ManyNames x = new ManyNames();
        Place.write(x, "meta");
        x.end(3);
        C.due("12 met, cut off", x.rules(), -13);
        C.due("12 met, cut off", x.fault(), 2);
        Place.write(x, "met 55;");
        x.end(5);
        C.due("12 met 5, cut off", x.rules(), -15);
        C.due("12 met 5, cut off", x.fault(), 2);
        Place.write(x, "met 5;");
        x.end(5);
        x.feed(0x3b20202020202020L);
        C.due("12 and another end", x.rules(), 1);
        C.due("12 told", x.rule(0), 5);
    }

    private static void fullTape() {
        String blanks = " ".repeat(194);
        ManyNames x = new ManyNames();
        C.due("13 the last byte", Place.tell(x, blanks + "met 5;"), 1);
        C.due("13 told", x.rule(0), 5);
        C.due("13 the end behind a name", Place.tell(x, blanks + "   met"), -210);
        C.due("14 the end", x.fault(), 2);
        C.due("13 the end behind a number", Place.tell(x, blanks + " met 5"), -210);
        C.due("14 the end", x.fault(), 2);
        C.due("13 blanks", Place.tell(x, blanks + "      "), 0);
        C.due("13 the last byte is no token", Place.tell(x, blanks + "     #"), -209);
        C.due("14 no token", x.fault(), 1);
    }

    private static void ruleNumbers() {
        ManyNames x = new ManyNames();
        C.due("15 below", x.rule(-1), -1);
        C.due("15 beyond", x.rule(10), -1);
        C.due("15 first", x.rule(0), 100);
        C.due("15 last", x.rule(9), 8);
    }
}
