import java.lang.reflect.InvocationTargetException;
import java.lang.reflect.Method;
import java.util.ArrayList;
import java.util.List;
import java.util.Random;

/** Random runs of 512 calls, each answer held against the one of the model; all 36 promises. */
public final class RandomRunsTest {
    private static final int RUNS = 400;
    private static final int CALLS = 512;
    private static final String[] CHANGES = {"name", "seed", "pledge", "tie", "tie", "renew", "day", "word", "word",
        "sheet", "lay", "lay", "read", "text"};
    private static final String[] RULES =
        {"met", "dealt", "said", "bought", "fade", "word", "seed", "pledge", "fine", "good"};

    private final Random random;
    private final ManyNames x = new ManyNames();
    private final Model model = new Model();
    private final List<String> calls = new ArrayList<>();
    private final int size;

    private RandomRunsTest(long seed) {
        random = new Random(seed);
        size = 1 + random.nextInt(12);
    }

    public static void main(String[] args) throws Exception {
        Check check = new Check();
        Method[] face = face();
        for (int run = 0; run < RUNS && check.wrong() == 0; run++) {
            new RandomRunsTest(run).play(run, face, check);
        }
        check.finish();
    }

    /** In an order of its own: the machine's may differ from day to day. */
    private static Method[] face() {
        List<Method> face = new ArrayList<>();
        for (Method m : ManyNames.class.getDeclaredMethods()) {
            if (java.lang.reflect.Modifier.isPublic(m.getModifiers())) {
                face.add(m);
            }
        }
        face.sort((a, b) -> a.getName().compareTo(b.getName()));
        return face.toArray(new Method[0]);
    }

    private void play(int run, Method[] face, Check check) throws Exception {
        int before = check.wrong();
        for (int a = 0; a < size; a++) {
            call(run, find(face, "name"), check);
        }
        for (int i = calls.size(); i < CALLS && check.wrong() == before; i++) {
            // At first there are mostly changes, lest the dear questions are asked of nothing.
            boolean change = random.nextInt(3) > 0 && i < CALLS / 2;
            String named = change ? CHANGES[random.nextInt(CHANGES.length)] : "";
            if (named.equals("text")) {
                i += text(run, face, check);
            } else if (named.equals("read")) {
                readAndAsk(run, face, check);
                i++;
            } else if (change) {
                call(run, find(face, named), check);
            } else {
                call(run, face[random.nextInt(face.length)], check);
            }
        }
        if (check.wrong() != before) {
            System.out.println("run " + run + ": " + calls);
        }
    }

    private static Method find(Method[] face, String named) {
        for (Method m : face) {
            if (m.getName().equals(named)) {
                return m;
            }
        }
        throw new IllegalStateException(named);
    }

    private void call(int run, Method m, Check check) throws Exception {
        Class<?>[] types = m.getParameterTypes();
        Object[] args = new Object[types.length];
        for (int i = 0; i < args.length; i++) {
            args[i] = argument(m.getName(), i, types[i]);
        }
        // To be made is for ever: too many of them leave nothing to ask for.
        if (m.getName().equals("made") && random.nextInt(4) > 0) {
            return;
        }
        callWith(run, m, args, check);
    }

    /** What a read() lost is forgotten with the next one, so it is asked for at once. */
    private void readAndAsk(int run, Method[] face, Check check) throws Exception {
        call(run, find(face, "read"), check);
        callWith(run, find(face, "lost"), new Object[0], check);
    }

    private void callWith(int run, Method m, Object[] args, Check check) throws Exception {
        String told = m.getName() + java.util.Arrays.toString(args);
        calls.add(told);
        long got;
        try {
            got = ((Number) m.invoke(x, args)).longValue();
        } catch (InvocationTargetException e) {
            e.getCause().printStackTrace(System.out);
            check.isTrue("run " + run + ": " + told + " throws nothing", false);
            return;
        }
        Method due = Model.class.getMethod(m.getName(), m.getParameterTypes());
        check.due("run " + run + ": " + told, got, ((Number) due.invoke(model, args)).longValue());
    }

    private Object argument(String call, int i, Class<?> type) {
        if (type == boolean.class) {
            return random.nextBoolean();
        }
        if (type == long.class) {
            return random.nextLong();
        }
        int wild = random.nextInt(120);
        if (wild == 0) {
            return random.nextInt();
        }
        if (wild < 4) {
            return new int[] {Integer.MIN_VALUE, Integer.MAX_VALUE, -1}[wild - 1];
        }
        return plain(call, i);
    }

    private int plain(String call, int i) {
        int a = random.nextInt(random.nextInt(15) == 0 ? 13 : size);
        int what = random.nextInt(random.nextInt(10) == 0 ? 9 : 4);
        int room = random.nextInt(4) == 0 ? random.nextInt(1003) : 1 + random.nextInt(40);
        int bits = random.nextInt(20) == 0 ? random.nextInt(5000) : random.nextInt(1 << size);
        switch (call) {
            case "name": return random.nextInt(3) == 0 ? 0 : random.nextInt(30);
            case "seed": return a;
            case "pledge": return i == 0 ? a : room * 3;
            case "tie": return i < 2 ? a : i == 2 ? room : random.nextInt(30) == 0 ? 4 : random.nextInt(4);
            case "tieOf": return i == 0 ? random.nextInt(25) : random.nextInt(7);
            case "renew": return random.nextInt(24);
            case "of": return i == 0 ? a : random.nextInt(8);
            case "day": return random.nextInt(8) == 0 ? model.count(8) - 1 : model.count(8) + random.nextInt(40);
            case "end": return random.nextInt(4) == 0 ? random.nextInt(201) : 0;
            case "rule": return random.nextInt(11);
            case "heap": return bits;
            case "cut": case "ring": case "odds": return i == 0 ? bits : what;
            case "word": return i < 2 ? a : i == 2 ? random.nextInt(random.nextInt(3) == 0 ? 8 : 101) : markOrSo();
            case "wordOf": return i == 0 ? random.nextInt(25) : random.nextInt(7);
            case "span": return i == 0 ? a : what;
            case "gain": return i == 0 ? bits & random.nextInt(4096) : i == 1 ? room : random.nextInt(12);
            case "best": return i == 0 ? room : i == 1 ? random.nextInt(12) : random.nextInt(2);
            case "sheet": return i == 0 ? sheetOrSo() : i == 1 ? laneOrSo() : random.nextInt(54) - 3;
            case "lay": return i == 0 ? sheetOrSo() : i == 1 ? random.nextInt(20) : random.nextInt(20) == 0
                ? random.nextInt() : random.nextInt(11);
            case "read": return i == 0 ? sheetOrSo() : i == 1 ? laneOrSo() : i == 2 ? random.nextInt(18) - 1
                : random.nextInt(6);
            case "count": return random.nextInt(12);
            default: return random.nextInt(3) == 0 ? what : a;
        }
    }

    private int markOrSo() {
        return random.nextInt(random.nextInt(20) == 0 ? 13 : 11);
    }

    private int sheetOrSo() {
        return random.nextInt(15) == 0 ? 4 : random.nextInt(3) == 0 ? random.nextInt(4) : 0;
    }

    private int laneOrSo() {
        return random.nextInt(20) == 0 ? 3 : random.nextInt(4) == 0 ? random.nextInt(3) : 0;
    }

    /** A text that is near to a good one, fed and told; answers how many calls that took. */
    private int text(int run, Method[] face, Check check) throws Exception {
        StringBuilder text = new StringBuilder();
        int lines = random.nextInt(6);
        for (int i = 0; i < lines; i++) {
            int rule = random.nextInt(10);
            int most = rule == 6 || rule == 8 ? 999 : rule == 9 ? 10 : 100;
            text.append(RULES[rule]).append(random.nextBoolean() ? " " : "").append(random.nextInt(most + 1));
            text.append(random.nextBoolean() ? ";" : " ; ");
        }
        if (random.nextInt(3) == 0 && text.length() > 0) {
            int at = random.nextInt(text.length());
            switch (random.nextInt(3)) {
                case 0: text.deleteCharAt(at); break;
                case 1: text.insert(at, ";5 a\u00e9".charAt(random.nextInt(5))); break;
                default: text.setCharAt(at, ";09 az#".charAt(random.nextInt(7)));
            }
        }
        int from = calls.size();
        callWith(run, find(face, "end"), new Object[] {0}, check);
        for (int at = 0; at < text.length(); at += 8) {
            long v = 0;
            for (int i = at; i < at + 8; i++) {
                v = v << 8 | (i < text.length() ? text.charAt(i) & 255 : ' ');
            }
            callWith(run, find(face, "feed"), new Object[] {v}, check);
        }
        callWith(run, find(face, "end"), new Object[] {text.length()}, check);
        callWith(run, find(face, "rules"), new Object[0], check);
        callWith(run, find(face, "fault"), new Object[0], check);
        for (int what = 0; what < 10; what++) {
            callWith(run, find(face, "rule"), new Object[] {what}, check);
        }
        return calls.size() - from - 1;
    }
}
