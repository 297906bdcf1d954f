import java.lang.reflect.Constructor;
import java.lang.reflect.Field;
import java.lang.reflect.Method;
import java.lang.reflect.Modifier;
import java.nio.file.Files;
import java.nio.file.Path;
import java.util.ArrayList;
import java.util.Arrays;
import java.util.List;
import java.util.Set;
import java.util.TreeSet;
import java.util.regex.Matcher;
import java.util.regex.Pattern;

/** The public face, and those rules of the language that can be seen from outside or by a plain look at the file. */
public final class FaceTest {
    private static final Check C = new Check();
    private static final String[] FACE = {
        "int name(int)", "int seed(int, boolean)", "int pledge(int, int)", "int tie(int, int, int, int)",
        "int tieOf(int, int)", "int renew(int)", "int of(int, int)", "int made(int)", "int day(int)", "int feed(long)",
        "int end(int)", "int rules()", "int fault()", "int rule(int)", "int trust(int)", "int heap(int)",
        "int cut(int, int)", "int low(int)", "int twins(int)", "int word(int, int, int, int)", "int wordOf(int, int)",
        "int weight(int, int)", "int sayers(int)", "int mark(int, int)", "int span(int, int, int)",
        "int ring(int, int)", "long odds(int, int)", "long oddest(int)", "int gain(int, int, int)",
        "int best(int, int, int)", "int sheet(int, int, int)", "int lay(int, int, int)",
        "int read(int, int, int, int)", "int lost()", "int count(int)"};

    public static void main(String[] args) throws Exception {
        face();
        constants();
        classesInside();
        source(Path.of("src/main/java/ManyNames.java"));
        C.finish();
    }

    private static void face() {
        Set<String> open = new TreeSet<>();
        Set<String> openNames = new TreeSet<>();
        for (Method m : ManyNames.class.getDeclaredMethods()) {
            if (Modifier.isPublic(m.getModifiers())) {
                String types = Arrays.toString(m.getParameterTypes());
                open.add(m.getReturnType() + " " + m.getName() + "(" + types.substring(1, types.length() - 1) + ")");
                openNames.add(m.getName());
                C.isTrue(m + " is no static one", !Modifier.isStatic(m.getModifiers()));
            }
        }
        C.isTrue("the face is as told: " + open, open.equals(new TreeSet<>(List.of(FACE))));
        for (Method m : ManyNames.class.getDeclaredMethods()) {
            if (!Modifier.isPublic(m.getModifiers())) {
                C.isTrue(m + " is private", Modifier.isPrivate(m.getModifiers()));
                C.isTrue(m + " bears no public name", !openNames.contains(m.getName()));
            }
        }
        Constructor<?>[] made = ManyNames.class.getDeclaredConstructors();
        C.due("constructors", made.length, 1);
        C.isTrue("it is public, without parameters",
            Modifier.isPublic(made[0].getModifiers()) && made[0].getParameterCount() == 0);
        C.isTrue("public and final", Modifier.isPublic(ManyNames.class.getModifiers())
            && Modifier.isFinal(ManyNames.class.getModifiers()));
        C.isTrue("no class above", ManyNames.class.getSuperclass() == Object.class);
        C.isTrue("no package", ManyNames.class.getPackageName().isEmpty());
    }

    private static void constants() throws Exception {
        C.due("BAD", ManyNames.BAD, -1);
        C.due("STATE", ManyNames.STATE, -2);
        C.due("FULL", ManyNames.FULL, -3);
        C.due("NONE", ManyNames.NONE, -4);
        Set<String> open = new TreeSet<>();
        for (Field f : ManyNames.class.getDeclaredFields()) {
            if (Modifier.isPublic(f.getModifiers())) {
                open.add(f.getName());
                C.isTrue(f + " is a constant", Modifier.isStatic(f.getModifiers()));
            } else {
                C.isTrue(f + " is private", Modifier.isPrivate(f.getModifiers()));
            }
        }
        C.isTrue("the constants are as told: " + open, open.equals(Set.of("BAD", "STATE", "FULL", "NONE")));
    }

    private static void classesInside() {
        List<Class<?>> all = new ArrayList<>(List.of(ManyNames.class.getDeclaredClasses()));
        C.isTrue("at most twelve classes", all.size() < 12);
        for (Class<?> c : all) {
            C.isTrue(c + " is static", Modifier.isStatic(c.getModifiers()));
            C.isTrue(c + " is not open", !Modifier.isPublic(c.getModifiers()) && !Modifier.isProtected(c.getModifiers()));
        }
        all.add(ManyNames.class);
        for (Class<?> c : all) {
            int fields = 0;
            for (Field f : c.getDeclaredFields()) {
                boolean isStatic = Modifier.isStatic(f.getModifiers());
                fields += isStatic ? 0 : 1;
                C.isTrue(f + " is final, if static", !isStatic || Modifier.isFinal(f.getModifiers()));
            }
            C.isTrue(c + " has at most twenty fields", fields <= 20);
            for (Method m : c.getDeclaredMethods()) {
                C.isTrue(m + " takes at most seven", m.getParameterCount() <= 7);
            }
        }
    }

    private static void source(Path file) throws Exception {
        String text = Files.readString(file);
        String code = text.replaceAll("(?s)/\\*.*?\\*/", " ").replaceAll("//[^\n]*", " ")
            .replaceAll("\"[^\"\n]*\"", "\"\"").replaceAll("'.'", "' '");
        String[] forbidden = {"throw", "throws", "try", "catch", "synchronized", "assert", "package", "native",
            "volatile", "transient", "Object", "Random", "System\\.(?!arraycopy)\\w+", "Thread", "double", "float",
            "Exact\\b", "->", "::", "@\\w+", "\\w+Exception"};
        for (String word : forbidden) {
            String bounded = Character.isLetter(word.charAt(0)) ? "\\b" + word + "\\b" : word;
            Matcher m = Pattern.compile(word.startsWith("Exact") ? "\\w+" + word : bounded).matcher(code);
            C.isTrue("the class does without " + word, !m.find());
        }
        Matcher m = Pattern.compile("import ([^;]*);").matcher(code);
        while (m.find()) {
            C.isTrue("import " + m.group(1), Set.of("java.util.Arrays", "java.util.ArrayList", "java.util.List")
                .contains(m.group(1)));
        }
        C.isTrue("signs from 1 to 126 alone", text.chars().allMatch(c -> c == '\n' || c >= 32 && c < 127));
        shortMethods(text);
    }

    /** A method begins with an indented line that ends with ") {" and ends with the brace of the same indent. */
    private static void shortMethods(String text) {
        String[] lines = text.split("\n");
        for (int i = 0; i < lines.length; i++) {
            Matcher m = Pattern.compile("^( {4}| {8})(?! )(?!if|for|while|switch|else|do\\b).*\\) \\{$").matcher(lines[i]);
            if (!m.find()) {
                continue;
            }
            int end = i;
            while (!lines[end].equals(m.group(1) + "}")) {
                end++;
            }
            C.isTrue("at most sixty lines: " + lines[i].trim(), end - i < 60);
        }
    }
}
