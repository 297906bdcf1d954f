import java.util.Random;

/** What the document says first, clause by clause (quoted ahead of each test), as laws that bind several calls together. */
public final class FirstLineTest {
    private static final Check C = new Check();
    private static final int PLACES = 40;
    private static final int NAMES = 7;
    private static final int ALL = (1 << NAMES) - 1;
    private static final int TOP = 10;

    public static void main(String[] args) {
        tiesAlone();
        fromAFew();
        ofAnyHeap();
        theCutHolds();
        eachHeardOnce();
        oneThinPlace();
        whateverSomeSay();
        loseWithThem();
        moreThanChance();
        theOddestRing();
        goneThrough();
        C.finish();
    }

    /** The same place each time for a number: seven names, all with ties of some kinds and rooms, all about some days. */
    private static ManyNames place(int number) {
        return place(number, 0, 0);
    }

    /** The same place, but that those of the set say another mark of name 0. */
    private static ManyNames place(int number, int set, int said) {
        Random random = new Random(number);
        ManyNames x = new ManyNames();
        Place.tell(x, "bought " + random.nextInt(101) + "; fade " + random.nextInt(40) + "; said 90;");
        for (int a = 0; a < NAMES; a++) {
            x.name(random.nextInt(40));
        }
        x.seed(random.nextInt(NAMES), true);
        x.pledge(random.nextInt(NAMES), 1 + random.nextInt(300));
        for (int t = 0; t < 12; t++) {
            x.day(t * 20);
            int a = random.nextInt(NAMES);
            x.tie(a, (a + 1 + random.nextInt(NAMES - 1)) % NAMES, 1 + random.nextInt(60), random.nextInt(3));
        }
        for (int a = 1; a < NAMES; a++) {
            int mark = random.nextInt(TOP + 1);
            x.word(a, 0, a, (set >> a & 1) != 0 ? said : mark);
        }
        return x;
    }

    /** "a place where anyone may make names for himself, so that trust runs along ties alone" */
    private static void tiesAlone() {
        ManyNames x = Place.withNames(0, 0);
        x.seed(0, true);
        x.tie(0, 1, 30, 0);
        for (int a = 2; a < 12; a++) {
            C.due("16 one more name", x.name(0), a);
            C.due("16 has no trust", x.trust(a), 0);
            x.tie(a, a == 2 ? 3 : a - 1, 999, 0);
        }
        C.due("17 nor have all of them together", x.heap(0xffc), 0);
        C.due("17 and they take nothing away", x.heap(2), 30);
        x.tie(1, 7, 4, 0);
        C.due("16 one tie brings to one what it has room for", x.trust(11), 4);
        C.due("17 and no more to all", x.heap(0xffc), 4);
    }

    /** "as a flow from a few that one trusts" */
    private static void fromAFew() {
        for (int number = 0; number < PLACES; number++) {
            ManyNames x = place(number);
            int given = 0;
            for (int a = 0; a < NAMES; a++) {
                given += x.of(a, 5);
            }
            C.due("17 all names have what the source gives, place " + number, x.heap(ALL), given);
            Place.tell(x, "pledge 0;");
            for (int a = 0; a < NAMES; a++) {
                x.seed(a, false);
            }
            C.due("17 without those nothing comes, place " + number, x.heap(ALL), 0);
        }
    }

    /** "how much all of any heap of names have together" */
    private static void ofAnyHeap() {
        Random random = new Random(5);
        for (int number = 0; number < PLACES; number++) {
            ManyNames x = place(number);
            for (int i = 0; i < 20; i++) {
                int one = random.nextInt(ALL + 1);
                int other = random.nextInt(ALL + 1);
                String heaps = " " + one + " and " + other + ", place " + number;
                C.isTrue("17 more names have no less" + heaps, x.heap(one | other) >= x.heap(one));
                C.isTrue("17 two heaps have no more together" + heaps,
                    x.heap(one | other) + x.heap(one & other) <= x.heap(one) + x.heap(other));
            }
        }
    }

    /** "the cut that holds them so low" */
    private static void theCutHolds() {
        for (int number = 0; number < PLACES; number++) {
            for (int heap = 1; heap <= ALL; heap += 9) {
                ManyNames x = place(number);
                int held = x.cut(heap, 2);
                int ties = x.cut(heap, 1);
                for (int t = 0; t < x.count(4); t++) {
                    held += (ties >> t & 1) != 0 ? x.tieOf(t, 5) : 0;
                }
                C.due("18 what leads out of the cut of " + heap + ", place " + number, held, x.heap(heap));
                C.due("18 none of the heap is in it", x.cut(heap, 0) & heap, 0);
            }
        }
    }

    /** "words about deals, each heard once" */
    private static void eachHeardOnce() {
        for (int number = 0; number < PLACES; number++) {
            ManyNames x = place(number);
            int top = x.mark(0, 0);
            int bottom = x.mark(0, 1);
            for (int a = 1; a < NAMES; a++) {
                x.word(a, 0, NAMES - a, a % 2 * TOP);
            }
            C.due("25 deals told again, place " + number, x.mark(0, 0), top);
            C.due("25 deals told again, place " + number, x.mark(0, 1), bottom);
        }
    }

    /** "names behind one thin place weigh together no more than it lets through" */
    private static void oneThinPlace() {
        for (int behind = 1; behind <= 10; behind++) {
            for (int thin = 1; thin <= 21; thin += 10) {
                ManyNames x = Place.withNames(0, 0);
                x.seed(0, true);
                x.tie(0, 1, thin, 0);
                int all = 0;
                for (int i = 0; i < behind; i++) {
                    int a = x.name(0);
                    x.tie(1 + i / 2, a, 999, 0);
                    x.word(a, 0, i, TOP);
                }
                for (int i = 0; i < behind; i++) {
                    all += x.weight(0, 2 + i);
                }
                C.due("23 " + behind + " names behind a room of " + thin, all, thin);
            }
        }
    }

    /** "the span within which a mark lies whatever some of them say" */
    private static void whateverSomeSay() {
        Random random = new Random(6);
        int marked = 0;
        for (int number = 0; number < PLACES; number++) {
            ManyNames x = place(number);
            if (x.mark(0, 1) < 0) {
                continue;
            }
            marked++;
            for (int k = 0; k <= 3; k++) {
                double least = (double) x.span(0, k, 0) / x.span(0, k, 1);
                double greatest = (double) x.span(0, k, 2) / x.span(0, k, 3);
                boolean metLeast = false;
                boolean metGreatest = false;
                for (int set = 0; set <= ALL; set += 2) {
                    if (Integer.bitCount(set) != k) {
                        continue;
                    }
                    for (int said : new int[] {0, random.nextInt(TOP + 1), TOP}) {
                        ManyNames y = place(number, set, said);
                        double mark = (double) y.mark(0, 0) / y.mark(0, 1);
                        C.isTrue("26 with " + k + " the mark is within", mark >= least && mark <= greatest);
                        metLeast |= mark == least;
                        metGreatest |= mark == greatest;
                    }
                }
                C.isTrue("26 with " + k + " both ends are met, place " + number, metLeast && metGreatest);
            }
        }
        C.isTrue("26 most places have a mark: " + marked, marked > PLACES / 2);
    }

    /** "those who stand for others and lose with them, fines that are forgotten" */
    private static void loseWithThem() {
        for (int number = 0; number < PLACES; number++) {
            ManyNames x = place(number);
            Place.tell(x, "fade 0; fine 30;");
            int[] before = new int[x.count(4)];
            for (int t = 0; t < before.length; t++) {
                before[t] = x.tieOf(t, 5);
            }
            int bad = number % NAMES;
            C.due("9 who stands for it is fined, place " + number, x.made(bad), x.count(3));
            for (int day : new int[] {0, 29, 30}) {
                x.day(220 + day);
                for (int t = 0; t < before.length; t++) {
                    int a = x.tieOf(t, 0);
                    int b = x.tieOf(t, 1);
                    boolean isHalf = day < 30 && x.of(a, 4) + x.of(b, 4) > 0;
                    int due = a == bad || b == bad ? 0 : isHalf ? before[t] / 2 : before[t];
                    C.due("6 tie " + t + " after " + day + " days, place " + number, x.tieOf(t, 5), due);
                }
            }
            C.due("36 the fines are forgotten, place " + number, x.count(3), 0);
        }
    }

    /** "names that mark one another more than chance deals, exact odds, the oddest ring" */
    private static void moreThanChance() {
        ManyNames x = Place.withNames(0, 0, 0, 0, 0, 0);
        int[] ring = {1, 3, 4};
        for (int i = 0; i < 3; i++) {
            x.word(ring[i], ring[(i + 1) % 3], i, TOP);
            x.word(2 * i == 4 ? 5 : 2 * i, ring[i], 10 + i, 3);
        }
        C.due("29 the three that mark one another", x.oddest(0), 1 << 1 | 1 << 3 | 1 << 4);
        C.due("29 one of twenty ways", x.oddest(1), 1);
        C.due("29 one of twenty ways", x.oddest(2), 20);
    }

    /** "exact odds, the oddest ring": no heap of three or four is odder than the one that is told. */
    private static void theOddestRing() {
        int rings = 0;
        for (int number = 0; number < PLACES; number++) {
            ManyNames x = place(number);
            for (int a = 0; a < NAMES; a++) {
                x.word(a, (a + 1 + number % 5) % NAMES, 20 + a, (a * number) % (TOP + 1));
            }
            long told = x.oddest(0);
            int odder = 0;
            int asOdd = 0;
            for (int heap = 0; heap <= ALL; heap++) {
                if (Integer.bitCount(heap) != 3 && Integer.bitCount(heap) != 4) {
                    continue;
                }
                long share = x.odds(heap, 0) * (told < 0 ? 1 : x.oddest(2));
                long least = x.odds(heap, 1) * (told < 0 ? 1 : x.oddest(1));
                odder += share < least ? 1 : 0;
                asOdd += share == least && heap < told ? 1 : 0;
            }
            rings += told > 0 ? 1 : 0;
            C.due("29 odder ones than " + told + ", place " + number, odder, 0);
            C.due("29 as odd ones with less bits than " + told + ", place " + number, asOdd, 0);
        }
        C.isTrue("29 most places have an odd ring: " + rings, rings > PLACES / 2);
    }

    /** "the cheat's best: whose ties to buy, gone through" */
    private static void goneThrough() {
        int gainful = 0;
        for (int number = 0; number < PLACES; number++) {
            ManyNames x = place(number);
            int room = 1 + number * 3;
            int value = 1 + number % 4;
            int greatest = 0;
            int set = 0;
            for (int names = 0; names <= ALL; names++) {
                int gain = x.gain(names, room, value);
                if (gain > greatest) {
                    greatest = gain;
                    set = names;
                }
            }
            C.due("31 the greatest gain, place " + number, x.best(room, value, 0), greatest);
            C.due("31 by the set, place " + number, x.best(room, value, 1), set);
            gainful += set != 0 ? 1 : 0;
        }
        C.isTrue("31 in most places something is worth its price: " + gainful, gainful > PLACES / 2);
    }
}
