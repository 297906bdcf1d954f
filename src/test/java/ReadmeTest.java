import java.io.File;
import java.lang.reflect.Method;
import java.lang.reflect.Modifier;
import java.nio.file.Files;
import java.nio.file.Path;
import java.util.HashMap;
import java.util.Map;
import java.util.TreeMap;
import java.util.regex.Matcher;
import java.util.regex.Pattern;

/** README.md tells the truth: its calls answer what stands behind them, and no call and no test is left out. */
public final class ReadmeTest {
    private static final Check C = new Check();
    private static final Pattern BLOCK = Pattern.compile("(?s)```java\n(.*?)```");
    private static final Pattern LINE = Pattern.compile("(?:int (\\w+) = )?x\\.(\\w+)\\(([^)]*)\\);\\s+// (-?\\d+)\\b.*");
    private static final String NEW = "ManyNames x = new ManyNames();";
    private static final Map<String, Method> FACE = new TreeMap<>();

    public static void main(String[] args) throws Exception {
        for (Method m : ManyNames.class.getDeclaredMethods()) {
            if (Modifier.isPublic(m.getModifiers())) {
                FACE.put(m.getName(), m);
            }
        }
        String page = Files.readString(Path.of("README.md"));
        Matcher blocks = BLOCK.matcher(page);
        int ran = 0;
        while (blocks.find()) {
            runBlock(++ran, blocks.group(1));
        }
        C.isTrue("the page has examples", ran > 0);
        namesEveryCall(page);
        namesEveryTest(page);
        C.finish();
    }

    private static void runBlock(int block, String text) throws Exception {
        String[] lines = text.split("\n");
        C.isTrue("block " + block + " begins with a new object", lines[0].equals(NEW));
        ManyNames x = new ManyNames();
        Map<String, Integer> known = new HashMap<>();
        for (int i = 1; i < lines.length; i++) {
            Matcher line = LINE.matcher(lines[i]);
            if (!line.matches() || !FACE.containsKey(line.group(2))) {
                C.isTrue("block " + block + " has a call with its answer: " + lines[i], false);
                continue;
            }
            long got = ask(x, FACE.get(line.group(2)), line.group(3), known);
            C.due("README.md, block " + block + ": " + lines[i], got, Long.parseLong(line.group(4)));
            if (line.group(1) != null) {
                known.put(line.group(1), (int) got);
            }
        }
    }

    private static long ask(ManyNames x, Method call, String told, Map<String, Integer> known) throws Exception {
        String[] parts = told.isEmpty() ? new String[0] : told.split(", ");
        Object[] args = new Object[parts.length];
        for (int i = 0; i < parts.length; i++) {
            Class<?> type = call.getParameterTypes()[i];
            if (type == boolean.class) {
                args[i] = Boolean.parseBoolean(parts[i]);
            } else if (type == long.class) {
                args[i] = Long.decode(parts[i].replace("L", ""));
            } else {
                args[i] = known.containsKey(parts[i]) ? known.get(parts[i]) : Integer.decode(parts[i]);
            }
        }
        return ((Number) call.invoke(x, args)).longValue();
    }

    private static void namesEveryCall(String page) {
        for (String call : FACE.keySet()) {
            C.isTrue("README.md names the call " + call, page.contains("`" + call + "`"));
        }
    }

    private static void namesEveryTest(String page) {
        String[] files = new File("src/test/java").list();
        for (String file : files == null ? new String[] {"no tests"} : files) {
            if (file.endsWith("Test.java")) {
                String test = file.substring(0, file.length() - ".java".length());
                C.isTrue("README.md names the test " + test, page.contains("`" + test + "`"));
            }
        }
    }
}
