import java.util.Arrays;

/**
 * A place where anyone may make names for himself: trust runs along ties alone.
 * What each call answers stands in the document, promise by promise.
 */
public final class ManyNames {
    public static final int BAD = -1, STATE = -2, FULL = -3, NONE = -4;

    private static final int MOST_NAMES = 12;
    private static final int MOST_TIES = 24;
    private static final int MOST_WORDS = 24;
    private static final int MOST_SHEETS = 4;
    private static final int MOST_READ = 12;
    private static final int MOST_SELLERS = 8;
    private static final int MOST_ROOM = 999;
    private static final int LAST_DAY = 9999;
    private static final int LAST_DEAL = 99;
    private static final int TOP_MARK = 10;
    private static final int NO_GAIN = -1000000;
    private static final int EVERYONE = (1 << MOST_NAMES) - 1;

    private static final int SAID = 2;

    // The kinds of ties (0 to 3) are numbered as the rules that tell their rooms.
    private static final int BOUGHT = 3, FADE = 4, WORD = 5, SEED = 6, PLEDGE = 7, FINE = 8, GOOD = 9;
    private static final int RULES = 10;
    private static final int[] RULES_AT_FIRST = {100, 80, 50, 0, 10, 20, 100, 10, 100, 8};
    private static final int[] RULES_LEAST = {0, 0, 0, 0, 0, 0, 1, 0, 0, 1};
    private static final int[] RULES_MOST = {100, 100, 100, 100, 100, 100, 999, 100, 999, 10};

    private static final int NULL_FAULT = 1, INDEX_FAULT = 2, CAST_FAULT = 3, SIZE_FAULT = 4;

    private final Folk folk = new Folk();
    private final Ties ties = new Ties();
    private final Words words = new Words();
    private final Tape tape = new Tape();
    private final Flow flow = new Flow();
    private final Sheet[] sheets = new Sheet[MOST_SHEETS];
    private final int[] held = new int[RULES];
    private final int[] draft = new int[RULES];
    private final int[] weights = new int[MOST_NAMES];
    private final int[] marks = new int[MOST_NAMES];
    private final int[] stakes = new int[MOST_NAMES];
    private int today;
    private int lostFault;

    public ManyNames() {
        System.arraycopy(RULES_AT_FIRST, 0, held, 0, RULES);
        for (int k = 0; k < MOST_SHEETS; k++) {
            sheets[k] = new Sheet();
        }
    }

    // ---- names, ties

    public int name(int price) {
        if (!within(price, 0, 999)) {
            return BAD;
        }
        return folk.enter(price);
    }

    public int seed(int a, boolean is) {
        if (!isName(a)) {
            return BAD;
        }
        int was = oneIf(folk.seed[a]);
        folk.seed[a] = is;
        return was;
    }

    public int pledge(int a, int coins) {
        if (!isName(a) || !within(coins, 1, 999)) {
            return BAD;
        }
        if (folk.made[a]) {
            return STATE;
        }
        folk.coins[a] += coins;
        return pledgeRoom(a);
    }

    public int tie(int a, int b, int room, int kind) {
        if (!arePair(a, b) || !within(room, 1, MOST_ROOM) || !within(kind, 0, BOUGHT)) {
            return BAD;
        }
        if (ties.count >= MOST_TIES) {
            return FULL;
        }
        if (folk.made[a] || folk.made[b]) {
            return STATE;
        }
        return ties.enter(a, b, room, kind, today);
    }

    public int tieOf(int t, int what) {
        if (!isTie(t)) {
            return BAD;
        }
        switch (what) {
            case 0: return ties.first[t];
            case 1: return ties.second[t];
            case 2: return ties.room[t];
            case 3: return ties.kind[t];
            case 4: return ties.since[t];
            case 5: return roomOf(t);
            default: return BAD;
        }
    }

    public int renew(int t) {
        if (!isTie(t)) {
            return BAD;
        }
        if (hasMadeEnd(t)) {
            return STATE;
        }
        int age = today - ties.since[t];
        ties.since[t] = today;
        return age;
    }

    public int of(int a, int what) {
        if (!isName(a)) {
            return BAD;
        }
        switch (what) {
            case 0: return folk.price[a];
            case 1: return oneIf(folk.seed[a]);
            case 2: return oneIf(folk.made[a]);
            case 3: return oneIf(isFined(a));
            case 4: return folk.finedTo[a];
            case 5: return givenTo(a);
            case 6: return openTies(1 << a);
            default: return BAD;
        }
    }

    public int made(int a) {
        if (!isName(a)) {
            return BAD;
        }
        if (folk.made[a]) {
            return STATE;
        }
        folk.made[a] = true;
        int standing = standingFor(a);
        for (int b = 0; b < folk.count; b++) {
            if (hasBit(standing, b)) {
                folk.finedTo[b] = Math.max(folk.finedTo[b], today + held[FINE]);
            }
        }
        return Integer.bitCount(standing);
    }

    public int day(int d) {
        if (!within(d, today, LAST_DAY)) {
            return BAD;
        }
        int was = today;
        today = d;
        return was;
    }

    // ---- rules

    public int feed(long v) {
        return tape.takeEight(v);
    }

    public int end(int n) {
        if (!within(n, 0, tape.length)) {
            return BAD;
        }
        int had = tape.length;
        tape.length = n;
        return had;
    }

    public int rules() {
        System.arraycopy(RULES_AT_FIRST, 0, draft, 0, RULES);
        int answer = tape.readLines(draft);
        if (tape.fault == 0) {
            System.arraycopy(draft, 0, held, 0, RULES);
        }
        tape.length = 0;
        return answer;
    }

    public int fault() {
        return tape.fault;
    }

    public int rule(int what) {
        return within(what, 0, RULES - 1) ? held[what] : BAD;
    }

    // ---- trust

    public int trust(int a) {
        if (!isName(a)) {
            return BAD;
        }
        layFlow();
        return flow.most(1 << a);
    }

    public int heap(int names) {
        if (!isHeap(names)) {
            return BAD;
        }
        layFlow();
        return flow.most(names);
    }

    public int cut(int names, int what) {
        if (!isHeap(names) || names == 0 || !within(what, 0, 2)) {
            return BAD;
        }
        layFlow();
        flow.most(names);
        int inside = flow.reached & EVERYONE;
        switch (what) {
            case 0: return inside;
            case 1: return tiesOutOf(inside);
            default: return givenBeyond(inside);
        }
    }

    public int low(int what) {
        if (!within(what, 0, 1)) {
            return BAD;
        }
        layFlow();
        int lowest = NONE;
        int least = 0;
        for (int a = 0; a < folk.count; a++) {
            if (!isPlain(a)) {
                continue;
            }
            int own = flow.most(1 << a);
            if (lowest == NONE || own < least) {
                lowest = a;
                least = own;
            }
        }
        return what == 0 || lowest == NONE ? lowest : least;
    }

    public int twins(int what) {
        if (!within(what, 0, 1)) {
            return BAD;
        }
        fillTrusts();
        int pair = NONE;
        int most = 0;
        for (int a = 0; a < folk.count; a++) {
            for (int b = a + 1; b < folk.count; b++) {
                if (!isPlain(a) || !isPlain(b)) {
                    continue;
                }
                int below = stakes[a] + stakes[b] - flow.most(1 << a | 1 << b);
                if (below > most) {
                    pair = 16 * a + b;
                    most = below;
                }
            }
        }
        return what == 0 || pair == NONE ? pair : most;
    }

    // ---- words

    public int word(int a, int seller, int deal, int mark) {
        int refusal = refusalOf(a, seller, deal, mark, 0);
        return refusal != 0 ? refusal : words.enter(a, seller, deal, mark, today);
    }

    public int wordOf(int w, int what) {
        if (!isWord(w)) {
            return BAD;
        }
        switch (what) {
            case 0: return words.sayer[w];
            case 1: return words.seller[w];
            case 2: return words.deal[w];
            case 3: return words.mark[w];
            case 4: return words.since[w];
            case 5: return oneIf(words.doesCount(w));
            default: return BAD;
        }
    }

    public int weight(int seller, int a) {
        if (!arePair(seller, a)) {
            return BAD;
        }
        if (!hasBit(sayersOf(seller), a)) {
            return NONE;
        }
        weighSayers(seller);
        return weights[a];
    }

    public int sayers(int seller) {
        return isName(seller) ? sayersOf(seller) : BAD;
    }

    public int mark(int seller, int what) {
        if (!isName(seller) || !within(what, 0, 1)) {
            return BAD;
        }
        int all = weighSayers(seller);
        if (all == 0) {
            return NONE;
        }
        return (int) inLowest(summedMarks(), all, what == 0);
    }

    public int span(int seller, int k, int what) {
        if (!isName(seller) || !within(k, 0, 3) || !within(what, 0, 3)) {
            return BAD;
        }
        int all = weighSayers(seller);
        if (all == 0) {
            return NONE;
        }
        boolean greatest = what >= 2;
        int swing = greatestStakes(k, greatest);
        int sum = greatest ? summedMarks() + swing : summedMarks() - swing;
        return (int) inLowest(sum, all, what % 2 == 0);
    }

    // ---- rings, the cheat

    public int ring(int names, int what) {
        if (!isHeap(names)) {
            return BAD;
        }
        switch (what) {
            case 0: return words.count;
            case 1: return wordsWithin(names, false);
            case 2: return wordsWithin(EVERYONE, true);
            case 3: return wordsWithin(names, true);
            default: return BAD;
        }
    }

    public long odds(int names, int what) {
        if (!isHeap(names) || !within(what, 0, 1)) {
            return BAD;
        }
        int good = wordsWithin(EVERYONE, true);
        return inLowest(waysOf(names, good), choose(words.count, good), what == 0);
    }

    public long oddest(int what) {
        if (!within(what, 0, 2)) {
            return BAD;
        }
        // All heaps share one denominator, so that their ways alone are compared.
        int good = wordsWithin(EVERYONE, true);
        long all = choose(words.count, good);
        long least = all;
        int oddest = 0;
        for (int names = 0; names < 1 << folk.count; names++) {
            if (!within(Integer.bitCount(names), 3, 4)) {
                continue;
            }
            long ways = waysOf(names, good);
            if (ways < least) {
                least = ways;
                oddest = names;
            }
        }
        if (oddest == 0) {
            return NONE;
        }
        return what == 0 ? oddest : inLowest(least, all, what == 1);
    }

    public int gain(int names, int room, int value) {
        if (!isHeap(names) || !isOffer(room, value) || (names & ~sellingNames()) != 0) {
            return NO_GAIN;
        }
        layFlow();
        return gainBy(names, boughtRoom(room), value);
    }

    public int best(int room, int value, int what) {
        if (!isOffer(room, value) || !within(what, 0, 1)) {
            return BAD;
        }
        int selling = sellingNames();
        if (Integer.bitCount(selling) > MOST_SELLERS) {
            return STATE;
        }
        layFlow();
        int bought = boughtRoom(room);
        int greatest = 0;
        int set = 0;
        for (int names = 1; names < 1 << folk.count; names++) {
            int gained = (names & ~selling) == 0 ? gainBy(names, bought, value) : 0;
            if (gained > greatest) {
                greatest = gained;
                set = names;
            }
        }
        return what == 0 ? greatest : set;
    }

    // ---- sheets

    public int sheet(int k, int lane, int n) {
        if (!isSheet(k) || !isLane(lane) || n > Sheet.MOST_CELLS) {
            return BAD;
        }
        if (n < 0) {
            return -10 - SIZE_FAULT;
        }
        sheets[k].renewRow(lane, n);
        return 1;
    }

    public int lay(int k, int i, int v) {
        if (!isSheet(k)) {
            return BAD;
        }
        int found = sheets[k].faultAt(i);
        if (found != 0) {
            return -10 - found;
        }
        sheets[k].put(i, v);
        return 1;
    }

    public int read(int k, int lane, int f, int n) {
        if (!isSheet(k) || !isLane(lane) || !within(n, 0, MOST_READ)) {
            return BAD;
        }
        Sheet from = sheets[k];
        int whole = from.wholeWords(lane, f, n);
        // None may come before all are known to be taken.
        for (int i = 0; i < whole; i++) {
            int at = f + 4 * i;
            int refusal = refusalOf(from.cells[at], from.cells[at + 1], from.cells[at + 2], from.cells[at + 3], i);
            if (refusal != 0) {
                return refusal == FULL ? FULL : -20 - i;
            }
        }
        for (int i = 0; i < whole; i++) {
            int at = f + 4 * i;
            words.enter(from.cells[at], from.cells[at + 1], from.cells[at + 2], from.cells[at + 3], today);
        }
        lostFault = from.faultOfReading(lane, n, whole);
        return whole;
    }

    public int lost() {
        return lostFault;
    }

    public int count(int what) {
        switch (what) {
            case 0: return folk.count;
            case 1: return countTrue(folk.seed);
            case 2: return countTrue(folk.made);
            case 3: return countFined();
            case 4: return ties.count;
            case 5: return openTies(EVERYONE);
            case 6: return words.count;
            case 7: return words.countingOnes();
            case 8: return today;
            case 9: return tape.length;
            case 10: return sheets[0].isNothing() ? NONE : sheets[0].size;
            default: return BAD;
        }
    }

    // ---- what is a number of what

    private static boolean within(int v, int least, int most) {
        return v >= least && v <= most;
    }

    private static boolean hasBit(int bits, int i) {
        return (bits >> i & 1) != 0;
    }

    private static int oneIf(boolean is) {
        return is ? 1 : 0;
    }

    private boolean isName(int a) {
        return within(a, 0, folk.count - 1);
    }

    private boolean arePair(int a, int b) {
        return isName(a) && isName(b) && a != b;
    }

    private boolean isHeap(int names) {
        return within(names, 0, (1 << folk.count) - 1);
    }

    private boolean isTie(int t) {
        return within(t, 0, ties.count - 1);
    }

    private boolean isWord(int w) {
        return within(w, 0, words.count - 1);
    }

    private static boolean isSheet(int k) {
        return within(k, 0, MOST_SHEETS - 1);
    }

    private static boolean isLane(int lane) {
        return within(lane, 0, Sheet.INTS);
    }

    private static boolean isOffer(int room, int value) {
        return within(room, 1, MOST_ROOM) && within(value, 0, 99);
    }

    // ---- names and ties on the day

    private boolean isFined(int a) {
        return today < folk.finedTo[a];
    }

    /** Neither a seed nor made: such ones alone are asked for the lowest and for twins. */
    private boolean isPlain(int a) {
        return !folk.seed[a] && !folk.made[a];
    }

    private int countTrue(boolean[] flags) {
        int sum = 0;
        for (int a = 0; a < folk.count; a++) {
            sum += oneIf(flags[a]);
        }
        return sum;
    }

    private int countFined() {
        int sum = 0;
        for (int a = 0; a < folk.count; a++) {
            sum += oneIf(isFined(a));
        }
        return sum;
    }

    private int standingFor(int a) {
        int standing = 0;
        for (int t = 0; t < ties.count; t++) {
            int b = ties.first[t];
            if (ties.kind[t] == SAID && ties.second[t] == a && !folk.made[b]) {
                standing |= 1 << b;
            }
        }
        return standing;
    }

    private int pledgeRoom(int a) {
        return folk.coins[a] * held[PLEDGE] / 100;
    }

    private int givenTo(int a) {
        if (folk.made[a]) {
            return 0;
        }
        return pledgeRoom(a) + (folk.seed[a] ? held[SEED] : 0);
    }

    private static int faded(int amount, int loss, int age) {
        int kept = Math.max(0, 100 - loss * age / 100);
        return amount * kept / 100;
    }

    private boolean hasMadeEnd(int t) {
        return folk.made[ties.first[t]] || folk.made[ties.second[t]];
    }

    private int roomOf(int t) {
        if (hasMadeEnd(t)) {
            return 0;
        }
        int room = faded(ties.room[t] * held[ties.kind[t]] / 100, held[FADE], today - ties.since[t]);
        return isFined(ties.first[t]) || isFined(ties.second[t]) ? room / 2 : room;
    }

    /** How many ties with room above 0 have an end among these names. */
    private int openTies(int names) {
        int sum = 0;
        for (int t = 0; t < ties.count; t++) {
            boolean touches = hasBit(names, ties.first[t]) || hasBit(names, ties.second[t]);
            sum += oneIf(touches && roomOf(t) > 0);
        }
        return sum;
    }

    // ---- trust as a flow

    private void layFlow() {
        flow.clear();
        for (int a = 0; a < folk.count; a++) {
            flow.give(a, givenTo(a));
        }
        for (int t = 0; t < ties.count; t++) {
            flow.join(ties.first[t], ties.second[t], roomOf(t));
        }
    }

    private int tiesOutOf(int inside) {
        int out = 0;
        for (int t = 0; t < ties.count; t++) {
            boolean leads = hasBit(inside, ties.first[t]) != hasBit(inside, ties.second[t]);
            if (leads && roomOf(t) > 0) {
                out |= 1 << t;
            }
        }
        return out;
    }

    private int givenBeyond(int inside) {
        int sum = 0;
        for (int a = 0; a < folk.count; a++) {
            if (!hasBit(inside, a)) {
                sum += givenTo(a);
            }
        }
        return sum;
    }

    /** Lays the flow, and the trust of each name alone into the stakes. */
    private void fillTrusts() {
        layFlow();
        for (int a = 0; a < folk.count; a++) {
            stakes[a] = isPlain(a) ? flow.most(1 << a) : 0;
        }
    }

    // ---- words and their weights

    /** Why a word is refused that would come behind so many others; 0: it is not. */
    private int refusalOf(int a, int seller, int deal, int mark, int ahead) {
        if (!arePair(a, seller) || !within(deal, 0, LAST_DEAL) || !within(mark, 0, TOP_MARK)) {
            return BAD;
        }
        if (words.count + ahead >= MOST_WORDS) {
            return FULL;
        }
        return folk.made[a] ? STATE : 0;
    }

    private int sayersOf(int seller) {
        int sayers = 0;
        for (int w = 0; w < words.count; w++) {
            int a = words.sayer[w];
            if (words.seller[w] == seller && !folk.made[a] && words.doesCount(w)) {
                sayers |= 1 << a;
            }
        }
        return sayers;
    }

    /** Fills the weights and the marks of a seller's sayers, by names; answers all weights. */
    private int weighSayers(int seller) {
        int sayers = sayersOf(seller);
        int heard = 0;
        int before = 0;
        int all = 0;
        layFlow();
        for (int a = 0; a < MOST_NAMES; a++) {
            weights[a] = 0;
            marks[a] = 0;
            int w = hasBit(sayers, a) ? words.countingOf(a, seller) : NONE;
            if (w < 0) {
                continue;
            }
            heard |= 1 << a;
            int together = flow.most(heard);
            weights[a] = faded(together - before, held[WORD], today - words.since[w]);
            marks[a] = words.mark[w];
            before = together;
            all += weights[a];
        }
        return all;
    }

    private int summedMarks() {
        int sum = 0;
        for (int a = 0; a < MOST_NAMES; a++) {
            sum += weights[a] * marks[a];
        }
        return sum;
    }

    /** How far k of the sayers can move the summed marks, up or down. */
    private int greatestStakes(int k, boolean up) {
        for (int a = 0; a < MOST_NAMES; a++) {
            stakes[a] = weights[a] * (up ? TOP_MARK - marks[a] : marks[a]);
        }
        int sum = 0;
        for (int i = 0; i < k; i++) {
            int most = 0;
            for (int a = 1; a < MOST_NAMES; a++) {
                most = stakes[a] > stakes[most] ? a : most;
            }
            sum += stakes[most];
            stakes[most] = 0;
        }
        return sum;
    }

    // ---- fractions and odds

    private static long inLowest(long top, long bottom, boolean isTop) {
        long part = commonPart(top, bottom);
        return isTop ? top / part : bottom / part;
    }

    /** The greatest common divisor, 1 at least; the steps of two longs are far below 200. */
    private static long commonPart(long a, long b) {
        long x = a;
        long y = b;
        for (int step = 0; step < 200 && y != 0; step++) {
            long rest = x % y;
            x = y;
            y = rest;
        }
        return Math.max(1, x);
    }

    private static long choose(int n, int k) {
        if (k < 0 || k > n) {
            return 0;
        }
        long ways = 1;
        for (int i = 0; i < k; i++) {
            ways = ways * (n - i) / (i + 1);
        }
        return ways;
    }

    private int wordsWithin(int names, boolean goodAlone) {
        int sum = 0;
        for (int w = 0; w < words.count; w++) {
            boolean between = (words.bothEnds[w] & ~names) == 0;
            sum += oneIf(between && (!goodAlone || words.mark[w] >= held[GOOD]));
        }
        return sum;
    }

    /** In how many ways of so many good words as many as now, or more, lie within the names. */
    private long waysOf(int names, int good) {
        int inside = wordsWithin(names, false);
        int outside = words.count - inside;
        long ways = 0;
        for (int h = wordsWithin(names, true); h <= inside && h <= good; h++) {
            ways += choose(inside, h) * choose(outside, good - h);
        }
        return ways;
    }

    // ---- the cheat

    private int boughtRoom(int room) {
        return room * held[BOUGHT] / 100;
    }

    private int sellingNames() {
        int selling = 0;
        for (int a = 0; a < folk.count; a++) {
            if (folk.price[a] > 0 && !folk.made[a]) {
                selling |= 1 << a;
            }
        }
        return selling;
    }

    /** The flow is laid already: it is laid once for all sets that are gone through. */
    private int gainBy(int names, int bought, int value) {
        int prices = 0;
        flow.partCheat();
        for (int a = 0; a < folk.count; a++) {
            if (hasBit(names, a)) {
                prices += folk.price[a];
                flow.join(a, Flow.CHEAT, bought);
            }
        }
        return value * flow.most(1 << Flow.CHEAT) - prices;
    }

    private static final class Folk {
        final int[] price = new int[MOST_NAMES];
        final boolean[] seed = new boolean[MOST_NAMES];
        final boolean[] made = new boolean[MOST_NAMES];
        final int[] finedTo = new int[MOST_NAMES];
        final int[] coins = new int[MOST_NAMES];
        int count;

        int enter(int asked) {
            if (count >= MOST_NAMES) {
                return FULL;
            }
            price[count] = asked;
            return count++;
        }
    }

    private static final class Ties {
        final int[] first = new int[MOST_TIES];
        final int[] second = new int[MOST_TIES];
        final int[] room = new int[MOST_TIES];
        final int[] kind = new int[MOST_TIES];
        final int[] since = new int[MOST_TIES];
        int count;

        int enter(int a, int b, int told, int sort, int day) {
            if (count >= MOST_TIES) {
                return FULL;
            }
            first[count] = a;
            second[count] = b;
            room[count] = told;
            kind[count] = sort;
            since[count] = day;
            return count++;
        }
    }

    private static final class Words {
        final int[] sayer = new int[MOST_WORDS];
        final int[] seller = new int[MOST_WORDS];
        final int[] deal = new int[MOST_WORDS];
        final int[] mark = new int[MOST_WORDS];
        final int[] since = new int[MOST_WORDS];
        final int[] bothEnds = new int[MOST_WORDS];
        final boolean[] firstOfDeal = new boolean[MOST_WORDS];
        int count;

        int enter(int a, int about, int number, int given, int day) {
            if (count >= MOST_WORDS) {
                return FULL;
            }
            firstOfDeal[count] = isNewDeal(number);
            sayer[count] = a;
            seller[count] = about;
            bothEnds[count] = 1 << a | 1 << about;
            deal[count] = number;
            mark[count] = given;
            since[count] = day;
            return count++;
        }

        private boolean isNewDeal(int number) {
            for (int w = 0; w < count; w++) {
                if (deal[w] == number) {
                    return false;
                }
            }
            return true;
        }

        /** The word of one about a seller that counts; NONE. */
        int countingOf(int a, int about) {
            for (int w = count - 1; w >= 0; w--) {
                if (firstOfDeal[w] && sayer[w] == a && seller[w] == about) {
                    return w;
                }
            }
            return NONE;
        }

        boolean doesCount(int w) {
            return countingOf(sayer[w], seller[w]) == w;
        }

        int countingOnes() {
            int sum = 0;
            for (int w = 0; w < count; w++) {
                sum += oneIf(doesCount(w));
            }
            return sum;
        }
    }

    /** The most that can come from the source to any of a heap, and what the source still reaches then. */
    private static final class Flow {
        static final int CHEAT = MOST_NAMES;
        static final int SOURCE = MOST_NAMES + 1;
        static final int SIZE = MOST_NAMES + 2;
        // With shortest ways first some 600 are the most that can be needed.
        static final int MOST_WAYS = 10000;

        // What is laid, and what is left of it while it is filled: the rooms from each one to each one,
        // and for each one the bits of those to whom there is room.
        final int[] rooms = new int[SIZE * SIZE];
        final int[] ways = new int[SIZE];
        final int[] left = new int[SIZE * SIZE];
        final int[] open = new int[SIZE];
        final int[] from = new int[SIZE];
        final int[] queue = new int[SIZE];
        int reached;

        void clear() {
            Arrays.fill(rooms, 0);
            Arrays.fill(ways, 0);
        }

        void give(int a, int room) {
            widen(SOURCE, a, room);
        }

        void join(int a, int b, int room) {
            widen(a, b, room);
            widen(b, a, room);
        }

        private void widen(int a, int b, int room) {
            if (room > 0) {
                rooms[a * SIZE + b] += room;
                ways[a] |= 1 << b;
            }
        }

        void partCheat() {
            for (int a = 0; a < SIZE; a++) {
                rooms[a * SIZE + CHEAT] = 0;
                rooms[CHEAT * SIZE + a] = 0;
                ways[a] &= ~(1 << CHEAT);
            }
            ways[CHEAT] = 0;
        }

        int most(int heap) {
            System.arraycopy(rooms, 0, left, 0, SIZE * SIZE);
            System.arraycopy(ways, 0, open, 0, SIZE);
            int sum = 0;
            for (int way = 0; way < MOST_WAYS; way++) {
                int goal = search(heap);
                if (goal < 0) {
                    break;
                }
                sum += push(goal);
            }
            return sum;
        }

        /** One of the heap that the source reaches by a shortest way; NONE. */
        private int search(int heap) {
            reached = 1 << SOURCE;
            queue[0] = SOURCE;
            int waiting = 1;
            for (int next = 0; next < waiting && next < SIZE; next++) {
                int a = queue[next];
                int met = open[a] & ~reached;
                reached |= met;
                for (int b = 0; b < SIZE && waiting < SIZE && met >> b != 0; b++) {
                    if (!hasBit(met, b)) {
                        continue;
                    }
                    from[b] = a;
                    if (hasBit(heap, b)) {
                        return b;
                    }
                    queue[waiting] = b;
                    waiting++;
                }
            }
            return NONE;
        }

        private int push(int goal) {
            int room = left[from[goal] * SIZE + goal];
            int b = goal;
            for (int step = 0; step < SIZE && b != SOURCE; step++) {
                room = Math.min(room, left[from[b] * SIZE + b]);
                b = from[b];
            }
            b = goal;
            for (int step = 0; step < SIZE && b != SOURCE; step++) {
                int a = from[b];
                left[a * SIZE + b] -= room;
                left[b * SIZE + a] += room;
                open[b] |= 1 << a;
                if (left[a * SIZE + b] <= 0) {
                    open[a] &= ~(1 << b);
                }
                b = a;
            }
            return room;
        }
    }

    /** The bytes of the rules' text, read token by token. */
    private static final class Tape {
        static final int MOST_BYTES = 200;
        static final int MOST_FIGURES = 4;
        static final int END = 0, RULE = 1, NUMBER = 2, STOP = 3;

        final int[] bytes = new int[MOST_BYTES];
        int length;
        int fault;
        private int place;
        private int start;
        private int token;
        private int value;
        private int told;

        int takeEight(long v) {
            if (length > MOST_BYTES - 8) {
                return FULL;
            }
            for (int shift = 56; shift >= 0; shift -= 8) {
                bytes[length] = (int) (v >>> shift) & 255;
                length++;
            }
            return length;
        }

        /** How many lines were read into the draft; -10 less the place of the fault. */
        int readLines(int[] draft) {
            place = 0;
            told = 0;
            fault = 0;
            int lines = 0;
            for (; lines <= RULES; lines++) {
                readToken();
                if (fault == 0 && token == END) {
                    return lines;
                }
                readLine(draft);
                if (fault != 0) {
                    return -10 - start;
                }
            }
            return lines;
        }

        /** The line's first token is read already. */
        private void readLine(int[] draft) {
            if (!stands(RULE)) {
                return;
            }
            int rule = value;
            if (hasBit(told, rule)) {
                fault = 4;
                return;
            }
            told |= 1 << rule;
            readToken();
            if (!stands(NUMBER)) {
                return;
            }
            if (!within(value, RULES_LEAST[rule], RULES_MOST[rule])) {
                fault = 3;
                return;
            }
            draft[rule] = value;
            readToken();
            stands(STOP);
        }

        private boolean stands(int wanted) {
            if (fault == 0 && token != wanted) {
                fault = 2;
            }
            return fault == 0;
        }

        private void readToken() {
            while (place < length && bytes[place] == ' ') {
                place++;
            }
            start = place;
            if (place >= length) {
                token = END;
            } else if (isLetter(place)) {
                readRule();
            } else if (isFigure(place)) {
                readNumber();
            } else if (bytes[place] == ';') {
                token = STOP;
                place++;
            } else {
                fault = 1;
            }
        }

        private boolean isLetter(int at) {
            return within(bytes[at], 'a', 'z');
        }

        private boolean isFigure(int at) {
            return within(bytes[at], '0', '9');
        }

        private void readRule() {
            while (place < length && isLetter(place)) {
                place++;
            }
            token = RULE;
            for (int rule = 0; rule < RULES; rule++) {
                if (isText(textOf(rule))) {
                    value = rule;
                    return;
                }
            }
            fault = 1;
        }

        private void readNumber() {
            token = NUMBER;
            value = 0;
            while (place < length && isFigure(place)) {
                // A longer number is a fault: what it is worth is never asked.
                value = place - start < MOST_FIGURES ? 10 * value + bytes[place] - '0' : value;
                place++;
            }
            if (place - start > MOST_FIGURES) {
                fault = 1;
            }
        }

        /** Whether the bytes from the start to the place are this text. */
        private boolean isText(String text) {
            if (text.length() != place - start) {
                return false;
            }
            for (int i = 0; i < text.length(); i++) {
                if (text.charAt(i) != bytes[start + i]) {
                    return false;
                }
            }
            return true;
        }

        private static String textOf(int rule) {
            switch (rule) {
                case 0: return "met";
                case 1: return "dealt";
                case 2: return "said";
                case BOUGHT: return "bought";
                case FADE: return "fade";
                case WORD: return "word";
                case SEED: return "seed";
                case PLEDGE: return "pledge";
                case FINE: return "fine";
                case GOOD: return "good";
                default: return "";
            }
        }
    }

    private static final class Sheet {
        static final int BYTES = 0, SHORTS = 1, INTS = 2;
        static final int MOST_CELLS = 48;
        static final int NOTHING = -1;

        final int[] cells = new int[MOST_CELLS];
        int lane;
        int size = NOTHING;

        boolean isNothing() {
            return size == NOTHING;
        }

        void renewRow(int sort, int n) {
            Arrays.fill(cells, 0);
            lane = sort;
            size = n;
        }

        int faultAt(int i) {
            if (isNothing()) {
                return NULL_FAULT;
            }
            return within(i, 0, size - 1) ? 0 : INDEX_FAULT;
        }

        void put(int i, int v) {
            if (!within(i, 0, size - 1)) {
                return;
            }
            switch (lane) {
                case BYTES:
                    cells[i] = (byte) v;
                    break;
                case SHORTS:
                    cells[i] = (short) v;
                    break;
                default:
                    cells[i] = v;
            }
        }

        /** How many of n words of four cells each lie whole from cell f on, taken as of a lane. */
        int wholeWords(int sort, int f, int n) {
            if (isNothing() || lane != sort || !within(f, 0, size)) {
                return 0;
            }
            return Math.min(n, (size - f) / 4);
        }

        /** The machine finds a fault at a cell that is asked for, so that none is found where all words came. */
        int faultOfReading(int sort, int n, int whole) {
            if (whole == n) {
                return 0;
            }
            if (isNothing()) {
                return NULL_FAULT;
            }
            return lane == sort ? INDEX_FAULT : CAST_FAULT;
        }
    }
}
