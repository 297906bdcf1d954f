import java.math.BigInteger;
import java.util.ArrayList;
import java.util.HashMap;
import java.util.HashSet;
import java.util.List;
import java.util.Map;
import java.util.Set;
import java.util.TreeSet;

/**
 * The document told a second time, by going through all sets and all ways, and by letting the machine find the faults
 * of sheets: slow, and written apart from the class, so that the two can be held against one another.
 */
public final class Model {
    private static final class Name {
        int price;
        boolean seed;
        boolean made;
        int finedTo;
        int coins;
    }

    private record Word(int who, int seller, int deal, int mark, int day) {
    }

    private final List<Name> names = new ArrayList<>();
    private final List<int[]> ties = new ArrayList<>();
    private final List<Word> words = new ArrayList<>();
    private final StringBuilder tape = new StringBuilder();
    private Map<String, Integer> told = new HashMap<>();
    private final Object[] sheets = new Object[4];
    private int today;
    private int ruleFault;
    private int lostFault;

    private static final String[] RULES =
        {"met", "dealt", "said", "bought", "fade", "word", "seed", "pledge", "fine", "good"};
    private static final int[] FIRST = {100, 80, 50, 0, 10, 20, 100, 10, 100, 8};

    private int holds(String rule) {
        for (int r = 0; r < 10; r++) {
            if (RULES[r].equals(rule)) {
                return told.getOrDefault(rule, FIRST[r]);
            }
        }
        throw new IllegalStateException(rule);
    }

    private boolean no(int a) {
        return a < 0 || a >= names.size();
    }

    private boolean noHeap(int bits) {
        return bits < 0 || bits >>> names.size() != 0;
    }

    // ---- names, ties

    public int name(int price) {
        if (price < 0 || price > 999) {
            return -1;
        }
        if (names.size() == 12) {
            return -3;
        }
        Name n = new Name();
        n.price = price;
        names.add(n);
        return names.size() - 1;
    }

    public int seed(int a, boolean is) {
        if (no(a)) {
            return -1;
        }
        int was = names.get(a).seed ? 1 : 0;
        names.get(a).seed = is;
        return was;
    }

    public int pledge(int a, int coins) {
        if (no(a) || coins < 1 || coins > 999) {
            return -1;
        }
        if (names.get(a).made) {
            return -2;
        }
        names.get(a).coins += coins;
        return names.get(a).coins * holds("pledge") / 100;
    }

    public int tie(int a, int b, int room, int kind) {
        if (no(a) || no(b) || a == b || room < 1 || room > 999 || kind < 0 || kind > 3) {
            return -1;
        }
        if (ties.size() == 24) {
            return -3;
        }
        if (names.get(a).made || names.get(b).made) {
            return -2;
        }
        ties.add(new int[] {a, b, room, kind, today});
        return ties.size() - 1;
    }

    private int room(int[] tie) {
        Name a = names.get(tie[0]);
        Name b = names.get(tie[1]);
        double part = Math.floor(tie[2] * holds(RULES[tie[3]]) / 100.0);
        double kept = Math.max(0, 100 - Math.floor(holds("fade") * (today - tie[4]) / 100.0));
        double room = Math.floor(part * kept / 100.0);
        if (a.finedTo > today || b.finedTo > today) {
            room = Math.floor(room / 2);
        }
        return a.made || b.made ? 0 : (int) room;
    }

    public int tieOf(int t, int what) {
        if (t < 0 || t >= ties.size() || what < 0 || what > 5) {
            return -1;
        }
        return what == 5 ? room(ties.get(t)) : ties.get(t)[what];
    }

    public int renew(int t) {
        if (t < 0 || t >= ties.size()) {
            return -1;
        }
        int[] tie = ties.get(t);
        if (names.get(tie[0]).made || names.get(tie[1]).made) {
            return -2;
        }
        int age = today - tie[4];
        tie[4] = today;
        return age;
    }

    private int given(int a) {
        Name n = names.get(a);
        if (n.made) {
            return 0;
        }
        return n.coins * holds("pledge") / 100 + (n.seed ? holds("seed") : 0);
    }

    public int of(int a, int what) {
        if (no(a) || what < 0 || what > 6) {
            return -1;
        }
        Name n = names.get(a);
        int open = 0;
        for (int[] tie : ties) {
            if ((tie[0] == a || tie[1] == a) && room(tie) > 0) {
                open++;
            }
        }
        int[] all = {n.price, n.seed ? 1 : 0, n.made ? 1 : 0, n.finedTo > today ? 1 : 0, n.finedTo, given(a), open};
        return all[what];
    }

    public int made(int a) {
        if (no(a)) {
            return -1;
        }
        if (names.get(a).made) {
            return -2;
        }
        Set<Integer> standing = new HashSet<>();
        for (int[] tie : ties) {
            if (tie[3] == 2 && tie[1] == a && !names.get(tie[0]).made) {
                standing.add(tie[0]);
            }
        }
        names.get(a).made = true;
        for (int b : standing) {
            names.get(b).finedTo = Math.max(names.get(b).finedTo, today + holds("fine"));
        }
        return standing.size();
    }

    public int day(int d) {
        if (d < today || d > 9999) {
            return -1;
        }
        int was = today;
        today = d;
        return was;
    }

    // ---- rules

    public int feed(long v) {
        if (tape.length() + 8 > 200) {
            return -3;
        }
        for (int i = 7; i >= 0; i--) {
            tape.append((char) (v >> 8 * i & 0xff));
        }
        return tape.length();
    }

    public int end(int n) {
        if (n < 0 || n > tape.length()) {
            return -1;
        }
        int had = tape.length();
        tape.setLength(n);
        return had;
    }

    /** Cuts the text into tokens first; a fault of a token counts when it is come to. */
    public int rules() {
        String text = tape.toString();
        tape.setLength(0);
        Map<String, Integer> now = new HashMap<>();
        int lines = 0;
        int stage = 0;
        String rule = "";
        int at = 0;
        while (true) {
            while (at < text.length() && text.charAt(at) == ' ') {
                at++;
            }
            String rest = text.substring(at);
            String token = rest.replaceAll("(?s)^([a-z]+|[0-9]+|;|).*$", "$1");
            boolean known = List.of(RULES).contains(token);
            if (rest.isEmpty() && stage == 0) {
                break;
            }
            boolean isName = token.matches("[a-z]+");
            boolean isNumber = token.matches("[0-9]+");
            if (!rest.isEmpty() && (token.isEmpty() || isName && !known || isNumber && token.length() > 4)) {
                return ruleFault(1, at);
            }
            if (!(stage == 0 ? isName : stage == 1 ? isNumber : token.equals(";"))) {
                return ruleFault(2, at);
            }
            if (stage == 0) {
                if (now.containsKey(token)) {
                    return ruleFault(4, at);
                }
                rule = token;
            } else if (stage == 1) {
                int v = Integer.parseInt(token);
                int least = rule.equals("seed") || rule.equals("good") ? 1 : 0;
                int most = rule.equals("seed") || rule.equals("fine") ? 999 : rule.equals("good") ? 10 : 100;
                if (v < least || v > most) {
                    return ruleFault(3, at);
                }
                now.put(rule, v);
            } else {
                lines++;
            }
            stage = (stage + 1) % 3;
            at += token.length();
        }
        told = now;
        ruleFault = 0;
        return lines;
    }

    private int ruleFault(int kind, int place) {
        ruleFault = kind;
        return -10 - place;
    }

    public int fault() {
        return ruleFault;
    }

    public int rule(int what) {
        return what < 0 || what > 9 ? -1 : holds(RULES[what]);
    }

    // ---- trust

    /** What leaves each set of names that the source is in. */
    private int[] waysOut() {
        int[] out = new int[1 << names.size()];
        int[] rooms = new int[ties.size()];
        int[] given = new int[names.size()];
        for (int t = 0; t < rooms.length; t++) {
            rooms[t] = room(ties.get(t));
        }
        for (int a = 0; a < given.length; a++) {
            given[a] = given(a);
        }
        for (int set = 0; set < out.length; set++) {
            for (int a = 0; a < given.length; a++) {
                out[set] += (set >> a & 1) == 0 ? given[a] : 0;
            }
            for (int t = 0; t < rooms.length; t++) {
                int[] tie = ties.get(t);
                out[set] += (set >> tie[0] & 1) != (set >> tie[1] & 1) ? rooms[t] : 0;
            }
        }
        return out;
    }

    private static int least(int[] out, int heap) {
        if (heap == 0) {
            return 0;
        }
        int least = Integer.MAX_VALUE;
        for (int set = 0; set < out.length; set++) {
            if ((set & heap) == 0) {
                least = Math.min(least, out[set]);
            }
        }
        return least;
    }

    public int trust(int a) {
        return no(a) ? -1 : least(waysOut(), 1 << a);
    }

    public int heap(int bits) {
        return noHeap(bits) ? -1 : least(waysOut(), bits);
    }

    public int cut(int bits, int what) {
        if (noHeap(bits) || bits == 0 || what < 0 || what > 2) {
            return -1;
        }
        int[] out = waysOut();
        int within = -1;
        for (int set = 0; set < out.length; set++) {
            if ((set & bits) == 0 && out[set] == least(out, bits)) {
                within &= set;
            }
        }
        if (what == 0) {
            return within;
        }
        int lead = 0;
        for (int t = 0; t < ties.size(); t++) {
            int[] tie = ties.get(t);
            if ((within >> tie[0] & 1) != (within >> tie[1] & 1) && room(tie) > 0) {
                lead += 1 << t;
            }
        }
        int given = 0;
        for (int a = 0; a < names.size(); a++) {
            given += (within >> a & 1) == 0 ? given(a) : 0;
        }
        return what == 1 ? lead : given;
    }

    private List<Integer> plain() {
        List<Integer> plain = new ArrayList<>();
        for (int a = 0; a < names.size(); a++) {
            if (!names.get(a).seed && !names.get(a).made) {
                plain.add(a);
            }
        }
        return plain;
    }

    public int low(int what) {
        if (what < 0 || what > 1) {
            return -1;
        }
        int[] out = waysOut();
        TreeSet<Integer> ranked = new TreeSet<>();
        for (int a : plain()) {
            ranked.add(least(out, 1 << a) * 16 + a);
        }
        if (ranked.isEmpty()) {
            return -4;
        }
        return what == 0 ? ranked.first() % 16 : ranked.first() / 16;
    }

    public int twins(int what) {
        if (what < 0 || what > 1) {
            return -1;
        }
        int[] out = waysOut();
        int[] best = {-4, -4};
        for (int a : plain()) {
            for (int b : plain()) {
                int less = least(out, 1 << a) + least(out, 1 << b) - least(out, 1 << a | 1 << b);
                if (a < b && less > Math.max(0, best[1])) {
                    best = new int[] {16 * a + b, less};
                }
            }
        }
        return best[what];
    }

    // ---- words

    private int refused(int a, int seller, int deal, int mark, int already) {
        if (no(a) || no(seller) || a == seller || deal < 0 || deal > 99 || mark < 0 || mark > 10) {
            return -1;
        }
        if (already == 24) {
            return -3;
        }
        return names.get(a).made ? -2 : 0;
    }

    public int word(int a, int seller, int deal, int mark) {
        int refused = refused(a, seller, deal, mark, words.size());
        if (refused != 0) {
            return refused;
        }
        words.add(new Word(a, seller, deal, mark, today));
        return words.size() - 1;
    }

    private Set<Integer> counting() {
        Map<Integer, Integer> firsts = new HashMap<>();
        for (int w = 0; w < words.size(); w++) {
            firsts.putIfAbsent(words.get(w).deal, w);
        }
        Map<Integer, Integer> latest = new HashMap<>();
        for (int w : new TreeSet<>(firsts.values())) {
            latest.put(words.get(w).who * 16 + words.get(w).seller, w);
        }
        return new TreeSet<>(latest.values());
    }

    public int wordOf(int w, int what) {
        if (w < 0 || w >= words.size() || what < 0 || what > 5) {
            return -1;
        }
        Word word = words.get(w);
        int[] all = {word.who, word.seller, word.deal, word.mark, word.day, counting().contains(w) ? 1 : 0};
        return all[what];
    }

    /** The words of the sayers of a seller, by names. */
    private Map<Integer, Word> heard(int seller) {
        Map<Integer, Word> heard = new java.util.TreeMap<>();
        for (int w : counting()) {
            Word word = words.get(w);
            if (word.seller == seller && !names.get(word.who).made) {
                heard.put(word.who, word);
            }
        }
        return heard;
    }

    private Map<Integer, Integer> weights(int seller) {
        int[] out = waysOut();
        Map<Integer, Integer> weights = new java.util.TreeMap<>();
        int bits = 0;
        for (Map.Entry<Integer, Word> e : heard(seller).entrySet()) {
            int more = bits | 1 << e.getKey();
            int added = least(out, more) - least(out, bits);
            int kept = Math.max(0, 100 - holds("word") * (today - e.getValue().day) / 100);
            weights.put(e.getKey(), added * kept / 100);
            bits = more;
        }
        return weights;
    }

    public int weight(int seller, int a) {
        if (no(seller) || no(a) || seller == a) {
            return -1;
        }
        return weights(seller).getOrDefault(a, -4);
    }

    public int sayers(int seller) {
        if (no(seller)) {
            return -1;
        }
        int bits = 0;
        for (int a : heard(seller).keySet()) {
            bits |= 1 << a;
        }
        return bits;
    }

    private static long part(long top, long bottom, int what) {
        BigInteger t = BigInteger.valueOf(top);
        BigInteger b = BigInteger.valueOf(bottom);
        return (what == 0 ? t : b).divide(t.gcd(b)).longValueExact();
    }

    public int mark(int seller, int what) {
        return what > 1 ? -1 : span(seller, 0, what);
    }

    public int span(int seller, int k, int what) {
        if (no(seller) || k < 0 || k > 3 || what < 0 || what > 3) {
            return -1;
        }
        Map<Integer, Integer> weights = weights(seller);
        Map<Integer, Word> heard = heard(seller);
        int all = weights.values().stream().mapToInt(Integer::intValue).sum();
        if (all == 0) {
            return -4;
        }
        int free = Math.min(k, heard.size());
        int least = Integer.MAX_VALUE;
        int greatest = Integer.MIN_VALUE;
        for (int set = 0; set < 1 << names.size(); set++) {
            if (Integer.bitCount(set & sayers(seller)) != free || (set & ~sayers(seller)) != 0) {
                continue;
            }
            int low = 0;
            int high = 0;
            for (int a : heard.keySet()) {
                boolean isFree = (set >> a & 1) != 0;
                low += weights.get(a) * (isFree ? 0 : heard.get(a).mark);
                high += weights.get(a) * (isFree ? 10 : heard.get(a).mark);
            }
            least = Math.min(least, low);
            greatest = Math.max(greatest, high);
        }
        return (int) part(what < 2 ? least : greatest, all, what % 2);
    }

    // ---- rings, the cheat

    private boolean between(Word w, int bits) {
        return (bits >> w.who & 1) != 0 && (bits >> w.seller & 1) != 0;
    }

    private int[] ringOf(int bits) {
        int[] ring = {words.size(), 0, 0, 0};
        for (Word w : words) {
            boolean good = w.mark >= holds("good");
            ring[1] += between(w, bits) ? 1 : 0;
            ring[2] += good ? 1 : 0;
            ring[3] += good && between(w, bits) ? 1 : 0;
        }
        return ring;
    }

    public int ring(int bits, int what) {
        return noHeap(bits) || what < 0 || what > 3 ? -1 : ringOf(bits)[what];
    }

    /** Small heaps of words are gone through way by way; for greater ones the ways are built word by word. */
    private long[] oddsOf(int bits) {
        int[] r = ringOf(bits);
        long all = 0;
        long some = 0;
        if (r[0] <= 10) {
            int inside = (1 << r[1]) - 1;
            for (int way = 0; way < 1 << r[0]; way++) {
                if (Integer.bitCount(way) == r[2]) {
                    all++;
                    some += Integer.bitCount(way & inside) >= r[3] ? 1 : 0;
                }
            }
        } else {
            long[][] ways = new long[r[0] + 2][r[0] + 2];
            ways[0][0] = 1;
            for (int w = 0; w < r[0]; w++) {
                boolean inside = w < r[1];
                long[][] next = new long[r[0] + 2][r[0] + 2];
                for (int g = 0; g <= w; g++) {
                    for (int h = 0; h <= g; h++) {
                        next[g][h] += ways[g][h];
                        next[g + 1][inside ? h + 1 : h] += ways[g][h];
                    }
                }
                ways = next;
            }
            for (int h = 0; h <= r[2]; h++) {
                all += ways[r[2]][h];
                some += h >= r[3] ? ways[r[2]][h] : 0;
            }
        }
        return new long[] {part(some, all, 0), part(some, all, 1)};
    }

    public long odds(int bits, int what) {
        return noHeap(bits) || what < 0 || what > 1 ? -1 : oddsOf(bits)[what];
    }

    public long oddest(int what) {
        if (what < 0 || what > 2) {
            return -1;
        }
        long[] best = {-4, 1, 1};
        for (int bits = 0; bits < 1 << names.size(); bits++) {
            int size = Integer.bitCount(bits);
            if (size != 3 && size != 4 || ringOf(bits)[3] == 0) {
                continue;
            }
            long[] odds = oddsOf(bits);
            if (odds[0] * best[2] < best[1] * odds[1]) {
                best = new long[] {bits, odds[0], odds[1]};
            }
        }
        return best[0] == -4 ? -4 : best[what];
    }

    private int gainBy(int[] out, int bits, int bought, int value) {
        int flow = Integer.MAX_VALUE;
        int prices = 0;
        for (int set = 0; set < out.length; set++) {
            flow = Math.min(flow, out[set] + bought * Integer.bitCount(set & bits));
        }
        for (int a = 0; a < names.size(); a++) {
            prices += (bits >> a & 1) != 0 ? names.get(a).price : 0;
        }
        return value * flow - prices;
    }

    private int selling() {
        int bits = 0;
        for (int a = 0; a < names.size(); a++) {
            bits |= names.get(a).price > 0 && !names.get(a).made ? 1 << a : 0;
        }
        return bits;
    }

    public int gain(int bits, int room, int value) {
        if (noHeap(bits) || room < 1 || room > 999 || value < 0 || value > 99 || (bits & selling()) != bits) {
            return -1000000;
        }
        return gainBy(waysOut(), bits, room * holds("bought") / 100, value);
    }

    public int best(int room, int value, int what) {
        if (room < 1 || room > 999 || value < 0 || value > 99 || what < 0 || what > 1) {
            return -1;
        }
        if (Integer.bitCount(selling()) > 8) {
            return -2;
        }
        int[] out = waysOut();
        int[] best = {Integer.MIN_VALUE, 0};
        for (int bits = 0; bits < out.length; bits++) {
            if ((bits & selling()) == bits) {
                int gain = gainBy(out, bits, room * holds("bought") / 100, value);
                if (gain > best[0]) {
                    best = new int[] {gain, bits};
                }
            }
        }
        return best[what];
    }

    // ---- sheets

    public int sheet(int k, int lane, int n) {
        if (k < 0 || k > 3 || lane < 0 || lane > 2 || n > 48) {
            return -1;
        }
        try {
            sheets[k] = lane == 0 ? new byte[n] : lane == 1 ? (Object) new short[n] : new int[n];
        } catch (NegativeArraySizeException e) {
            return -14;
        }
        return 1;
    }

    public int lay(int k, int i, int v) {
        if (k < 0 || k > 3) {
            return -1;
        }
        try {
            if (sheets[k] instanceof byte[] row) {
                row[i] = (byte) v;
            } else if (sheets[k] instanceof short[] row) {
                row[i] = (short) v;
            } else {
                ((int[]) sheets[k])[i] = v;
            }
        } catch (NullPointerException e) {
            return -11;
        } catch (ArrayIndexOutOfBoundsException e) {
            return -12;
        }
        return 1;
    }

    private static int cell(Object row, int lane, int i) {
        return lane == 0 ? ((byte[]) row)[i] : lane == 1 ? ((short[]) row)[i] : ((int[]) row)[i];
    }

    public int read(int k, int lane, int f, int n) {
        if (k < 0 || k > 3 || lane < 0 || lane > 2 || n < 0 || n > 12) {
            return -1;
        }
        List<Word> came = new ArrayList<>();
        int found = 0;
        try {
            for (int i = 0; i < n; i++) {
                int[] c = new int[4];
                for (int j = 0; j < 4; j++) {
                    c[j] = cell(sheets[k], lane, f + 4 * i + j);
                }
                int refused = refused(c[0], c[1], c[2], c[3], words.size() + came.size());
                if (refused != 0) {
                    return refused == -3 ? -3 : -20 - i;
                }
                came.add(new Word(c[0], c[1], c[2], c[3], today));
            }
        } catch (NullPointerException e) {
            found = 1;
        } catch (ArrayIndexOutOfBoundsException e) {
            found = 2;
        } catch (ClassCastException e) {
            found = 3;
        }
        words.addAll(came);
        lostFault = found;
        return came.size();
    }

    public int lost() {
        return lostFault;
    }

    public int count(int what) {
        int[] sums = new int[6];
        for (int a = 0; a < names.size(); a++) {
            sums[1] += of(a, 1);
            sums[2] += of(a, 2);
            sums[3] += of(a, 3);
        }
        for (int[] tie : ties) {
            sums[5] += room(tie) > 0 ? 1 : 0;
        }
        int cells = sheets[0] == null ? -4 : java.lang.reflect.Array.getLength(sheets[0]);
        int[] all = {names.size(), sums[1], sums[2], sums[3], ties.size(), sums[5], words.size(), counting().size(),
            today, tape.length(), cells};
        return what < 0 || what >= all.length ? -1 : all[what];
    }
}
