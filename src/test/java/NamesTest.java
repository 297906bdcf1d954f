/** Promises 1 to 10: a new object, names, ties, the day. */
public final class NamesTest {
    private static final Check C = new Check();

    public static void main(String[] args) {
        newObject();
        names();
        seeds();
        pledges();
        tiesCome();
        tiesAreTold();
        roomsFade();
        roomsOfKinds();
        renewal();
        ofNames();
        judged();
        finesAreForgotten();
        fineOfNoDays();
        days();
        C.finish();
    }

    private static void newObject() {
        ManyNames x = new ManyNames();
        int[] first = {100, 80, 50, 0, 10, 20, 100, 10, 100, 8};
        for (int r = 0; r < 10; r++) {
            C.due("1 rule(" + r + ")", x.rule(r), first[r]);
        }
        for (int what = 0; what < 10; what++) {
            C.due("1 count(" + what + ")", x.count(what), 0);
        }
        C.due("1 count(10)", x.count(10), -4);
        C.due("1 fault()", x.fault(), 0);
        C.due("1 lost()", x.lost(), 0);
        for (int k = 0; k < 4; k++) {
            C.due("1 lay(" + k + ",0,0)", x.lay(k, 0, 0), -11);
        }
    }

    private static void names() {
        ManyNames x = new ManyNames();
        C.due("2 name(-1)", x.name(-1), -1);
        C.due("2 name(1000)", x.name(1000), -1);
        C.due("2 name(min)", x.name(Integer.MIN_VALUE), -1);
        for (int i = 0; i < 12; i++) {
            C.due("2 name", x.name(i == 11 ? 999 : i), i);
        }
        C.due("2 the 13th", x.name(0), -3);
        C.due("2 the 13th, bad", x.name(1000), -1);
        C.due("2 count", x.count(0), 12);
        C.due("2 price", x.of(11, 0), 999);
        C.due("2 price", x.of(3, 0), 3);
    }

    private static void seeds() {
        ManyNames x = Place.withNames(0, 0);
        C.due("3 seed", x.seed(1, true), 0);
        C.due("3 seed again", x.seed(1, true), 1);
        C.due("3 is", x.of(1, 1), 1);
        C.due("3 count", x.count(1), 1);
        C.due("3 seed no more", x.seed(1, false), 1);
        C.due("3 seed no more again", x.seed(1, false), 0);
        C.due("3 is not", x.of(1, 1), 0);
        C.due("3 bad", x.seed(2, true), -1);
        C.due("3 bad", x.seed(-1, false), -1);
        x.made(0);
        C.due("3 a made one too", x.seed(0, true), 0);
        C.due("3 count", x.count(1), 1);
        C.due("3 a made one gets nothing", x.of(0, 5), 0);
    }

    private static void pledges() {
        ManyNames x = Place.withNames(0, 0);
        C.due("4 pledge", x.pledge(0, 9), 0);
        C.due("4 summed", x.pledge(0, 1), 1);
        C.due("4 summed", x.pledge(0, 999), 100);
        C.due("4 not the seed's", x.seed(0, true), 0);
        C.due("4 not the seed's", x.pledge(0, 1), 101);
        C.due("4 given", x.of(0, 5), 201);
        C.due("4 bad coins", x.pledge(0, 0), -1);
        C.due("4 bad coins", x.pledge(0, 1000), -1);
        C.due("4 bad name", x.pledge(2, 1), -1);
        C.due("4 bad name", x.pledge(-1, 1), -1);
        Place.tell(x, "pledge 33;");
        C.due("4 all by the rule of now", x.pledge(0, 1), 333);
        x.made(0);
        C.due("4 made", x.pledge(0, 1), -2);
        C.due("4 made, bad first", x.pledge(0, 0), -1);
        C.due("4 given to a made one", x.of(0, 5), 0);
    }

    private static void tiesCome() {
        ManyNames x = Place.withNames(0, 0, 0);
        C.due("5 itself", x.tie(1, 1, 5, 0), -1);
        C.due("5 no name", x.tie(0, 3, 5, 0), -1);
        C.due("5 no name", x.tie(-1, 1, 5, 0), -1);
        C.due("5 room", x.tie(0, 1, 0, 0), -1);
        C.due("5 room", x.tie(0, 1, 1000, 0), -1);
        C.due("5 kind", x.tie(0, 1, 5, 4), -1);
        C.due("5 kind", x.tie(0, 1, 5, -1), -1);
        for (int t = 0; t < 23; t++) {
            C.due("5 tie", x.tie(t % 2, 2, t == 0 ? 999 : 1, t % 4), t);
        }
        x.made(0);
        C.due("5 made first", x.tie(0, 1, 5, 0), -2);
        C.due("5 made second", x.tie(1, 0, 5, 0), -2);
        C.due("5 made and bad", x.tie(0, 0, 5, 0), -1);
        C.due("5 the 24th", x.tie(1, 2, 5, 0), 23);
        C.due("5 full", x.tie(1, 2, 5, 0), -3);
        C.due("5 full ahead of made", x.tie(0, 2, 5, 0), -3);
        C.due("5 bad ahead of full", x.tie(1, 1, 5, 0), -1);
        C.due("5 count", x.count(4), 24);
    }

    private static void tiesAreTold() {
        ManyNames x = Place.withNames(0, 0, 0);
        x.day(7);
        x.tie(2, 1, 50, 1);
        int[] due = {2, 1, 50, 1, 7, 40};
        for (int what = 0; what < 6; what++) {
            C.due("6 tieOf(0," + what + ")", x.tieOf(0, what), due[what]);
        }
        C.due("6 what", x.tieOf(0, 6), -1);
        C.due("6 what", x.tieOf(0, -1), -1);
        C.due("6 no tie", x.tieOf(1, 0), -1);
        C.due("6 no tie", x.tieOf(-1, 0), -1);
    }

    private static void roomsFade() {
        ManyNames x = Place.withNames(0, 0);
        x.tie(0, 1, 100, 0);
        int[] days = {0, 9, 10, 19, 20, 500, 989, 990, 999, 1000, 9999};
        int[] rooms = {100, 100, 99, 99, 98, 50, 2, 1, 1, 0, 0};
        for (int i = 0; i < days.length; i++) {
            x.day(days[i]);
            C.due("6 room on day " + days[i], x.tieOf(0, 5), rooms[i]);
        }
        C.due("36 ties with room", x.count(5), 0);
    }

    private static void roomsOfKinds() {
        ManyNames x = Place.withNames(0, 0);
        for (int kind = 0; kind < 4; kind++) {
            x.tie(0, 1, 19, kind);
        }
        int[] first = {19, 15, 9, 0};
        int[] later = {15, 12, 7, 0};
        for (int t = 0; t < 4; t++) {
            C.due("6 room of kind " + t, x.tieOf(t, 5), first[t]);
        }
        x.day(200);
        for (int t = 0; t < 4; t++) {
            C.due("6 room of kind " + t + ", later", x.tieOf(t, 5), later[t]);
        }
        Place.tell(x, "bought 50; fade 0;");
        C.due("6 bought by rule", x.tieOf(3, 5), 9);
    }

    private static void renewal() {
        ManyNames x = Place.withNames(0, 0, 0);
        x.tie(0, 1, 100, 0);
        x.day(300);
        C.due("7 faded", x.tieOf(0, 5), 70);
        C.due("7 renew", x.renew(0), 300);
        C.due("7 fresh", x.tieOf(0, 5), 100);
        C.due("7 its day", x.tieOf(0, 4), 300);
        C.due("7 at once again", x.renew(0), 0);
        C.due("7 no tie", x.renew(1), -1);
        C.due("7 no tie", x.renew(-1), -1);
        x.tie(1, 2, 5, 0);
        x.day(310);
        x.made(2);
        C.due("7 made end", x.renew(1), -2);
        C.due("7 its day stays", x.tieOf(1, 4), 300);
        C.due("7 the other one", x.renew(0), 10);
        x.made(0);
        C.due("7 made end, the first", x.renew(0), -2);
    }

    private static void ofNames() {
        ManyNames x = Place.withNames(17, 0, 3);
        x.seed(0, true);
        x.pledge(0, 25);
        x.tie(0, 1, 10, 0);
        x.tie(2, 0, 10, 3);
        x.tie(2, 1, 10, 0);
        int[] due = {17, 1, 0, 0, 0, 102, 1};
        for (int what = 0; what < 7; what++) {
            C.due("8 of(0," + what + ")", x.of(0, what), due[what]);
        }
        C.due("8 ties as the second end", x.of(1, 6), 2);
        C.due("8 what", x.of(0, 7), -1);
        C.due("8 what", x.of(0, -1), -1);
        C.due("8 no name", x.of(3, 0), -1);
        C.due("8 no name", x.of(-1, 0), -1);
        x.made(1);
        C.due("8 made", x.of(1, 2), 1);
        C.due("8 no room to a made one", x.of(2, 6), 0);
    }

    private static void judged() {
        ManyNames x = Place.withNames(0, 0, 0, 0, 0, 0);
        x.day(40);
        x.tie(0, 5, 10, 2);
        x.tie(0, 5, 20, 2);
        x.tie(1, 5, 10, 0);
        x.tie(5, 2, 10, 2);
        x.tie(3, 5, 10, 2);
        x.tie(4, 5, 10, 2);
        x.tie(0, 1, 100, 0);
        x.tie(0, 4, 31, 0);
        C.due("9 made", x.made(3), 0);
        C.due("9 no name", x.made(6), -1);
        C.due("9 no name", x.made(-1), -1);
        C.due("9 made: 0 twice, 4, not 3 that is made", x.made(5), 2);
        C.due("9 again", x.made(5), -2);
        int[] fined = {1, 0, 0, 0, 1, 0};
        for (int a = 0; a < 6; a++) {
            C.due("9 fined " + a, x.of(a, 3), fined[a]);
            C.due("9 fined up to " + a, x.of(a, 4), fined[a] * 140);
        }
        C.due("9 count made", x.count(2), 2);
        C.due("9 count fined", x.count(3), 2);
        C.due("6 half, one end fined", x.tieOf(6, 5), 50);
        C.due("6 half once, both ends fined", x.tieOf(7, 5), 15);
        C.due("6 none, made", x.tieOf(0, 5), 0);
        x.made(4);
        C.due("9 a made one stays fined", x.of(4, 3), 1);
    }

    private static void finesAreForgotten() {
        ManyNames x = Place.withNames(0, 0, 0, 0);
        x.tie(0, 1, 10, 2);
        x.tie(0, 2, 10, 2);
        x.tie(0, 3, 10, 2);
        x.day(10);
        C.due("9 made", x.made(1), 1);
        C.due("9 up to", x.of(0, 4), 110);
        x.day(109);
        C.due("9 still", x.of(0, 3), 1);
        x.day(110);
        C.due("9 forgotten", x.of(0, 3), 0);
        C.due("9 forgotten, the day stays", x.of(0, 4), 110);
        Place.tell(x, "fine 500;");
        x.made(2);
        C.due("9 longer", x.of(0, 4), 610);
        Place.tell(x, "fine 3;");
        x.made(3);
        C.due("9 as it is, if that is later", x.of(0, 4), 610);
    }

    private static void fineOfNoDays() {
        ManyNames x = Place.withNames(0, 0);
        Place.tell(x, "fine 0;");
        x.tie(0, 1, 10, 2);
        x.day(5);
        C.due("9 made", x.made(1), 1);
        C.due("9 not fined", x.of(0, 3), 0);
        C.due("9 up to the day", x.of(0, 4), 5);
    }

    private static void days() {
        ManyNames x = new ManyNames();
        C.due("10 day", x.day(0), 0);
        C.due("10 day", x.day(10), 0);
        C.due("10 back", x.day(9), -1);
        C.due("10 below", x.day(-1), -1);
        C.due("10 stays", x.day(10), 10);
        C.due("10 last", x.day(9999), 10);
        C.due("10 beyond", x.day(10000), -1);
        C.due("10 count", x.count(8), 9999);
    }
}
