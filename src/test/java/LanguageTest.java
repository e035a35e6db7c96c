import java.io.IOException;
import java.lang.reflect.Constructor;
import java.lang.reflect.Field;
import java.lang.reflect.Method;
import java.lang.reflect.Modifier;
import java.nio.file.Files;
import java.nio.file.Path;
import java.util.Random;
import java.util.Set;
import java.util.TreeSet;
import java.util.regex.Matcher;
import java.util.regex.Pattern;

/** What can be tested of LANGUAGE.md: the face, words that are not allowed, and that no call ever throws. */
public final class LanguageTest {
    private static final Due due = new Due();
    private static final Set<String> FACE = Set.of("feed", "clocks", "fault", "told", "clock", "heard", "alarmAt", "tick",
        "round", "lie", "error", "liar", "stand", "join", "alarm", "drift", "undo", "behind", "within", "write", "tear",
        "seed", "keep", "goBack");

    public static void main(String[] args) throws IOException, ReflectiveOperationException {
        face();
        insideClasses();
        words();
        library();
        lengths();
        neverThrows();
        due.end();
    }

    private static void face() {
        Set<String> open = new TreeSet<>();
        for (Method m : LiarClocks.class.getDeclaredMethods()) {
            if (Modifier.isPrivate(m.getModifiers())) {
                due.holds("a private method is not named as a public one: " + m.getName(), !FACE.contains(m.getName()));
            } else {
                due.holds("public, not static, int: " + m, Modifier.isPublic(m.getModifiers())
                    && !Modifier.isStatic(m.getModifiers()) && m.getReturnType() == int.class);
                due.holds("named once: " + m, open.add(m.getName()));
            }
        }
        due.holds("the methods are the document's", open.equals(new TreeSet<>(FACE)));
        Set<String> constants = new TreeSet<>();
        for (Field f : LiarClocks.class.getDeclaredFields()) {
            if (!Modifier.isPrivate(f.getModifiers())) {
                constants.add(f.getName());
            }
            due.holds("a static field is final: " + f, !Modifier.isStatic(f.getModifiers()) || Modifier.isFinal(f.getModifiers()));
        }
        due.holds("the constants are the document's", constants.equals(Set.of("NONE", "UNKNOWN", "OUTSIDE", "NOT", "FULL")));
        Constructor<?>[] made = LiarClocks.class.getDeclaredConstructors();
        due.is("constructors", made.length, 1);
        due.holds("public, without arguments", Modifier.isPublic(made[0].getModifiers()) && made[0].getParameterCount() == 0);
        due.holds("a final class", Modifier.isFinal(LiarClocks.class.getModifiers()));
    }

    private static void insideClasses() {
        Class<?>[] inside = LiarClocks.class.getDeclaredClasses();
        due.holds("at most twelve classes", inside.length <= 11);
        for (Class<?> c : inside) {
            due.holds("static: " + c, Modifier.isStatic(c.getModifiers()));
            due.holds("not open: " + c, !Modifier.isPublic(c.getModifiers()) && !Modifier.isProtected(c.getModifiers()));
            int fields = 0;
            for (Field f : c.getDeclaredFields()) {
                fields += Modifier.isStatic(f.getModifiers()) ? 0 : 1;
            }
            due.holds("some twenty fields: " + c, fields <= 20);
            for (Method m : c.getDeclaredMethods()) {
                due.holds("at most seven parameters: " + m, m.getParameterCount() <= 7);
                due.holds("not named as a public one: " + m, !FACE.contains(m.getName()));
            }
        }
    }

    private static String source() throws IOException {
        return Files.readString(Path.of("src/main/java/LiarClocks.java"));
    }

    private static String withoutComments(String source) {
        return source.replaceAll("(?s)/\\*.*?\\*/", " ").replaceAll("//[^\n]*", " ");
    }

    private static void words() throws IOException {
        String source = source();
        String code = withoutComments(source);
        String[] not = {"\\bthrow\\b", "\\bthrows\\b", "\\btry\\b", "\\bcatch\\b", "\\bsynchronized\\b", "\\bassert\\b",
            "\\bpackage\\b", "->", "::", "Exact\\b", "\\bObject\\b", "\\bRandom\\b", "\\bSystem\\.(?!arraycopy\\b)", "\\bThread\\b",
            "\\bdouble\\b", "\\bfloat\\b", "\\bvar\\b", "\\bhashCode\\b", "\\bequals\\b", "\\btoString\\b", "@", "_VALUE\\b(?<!MOST_ALARM_VALUE)"};
        for (String word : not) {
            due.holds("not in the source: " + word, !Pattern.compile(word).matcher(code).find());
        }
        for (int k = 0; k < source.length(); k++) {
            due.holds("plain signs alone", source.charAt(k) < 128);
        }
    }

    /** Rule 4 lists what may be used; of that the class needs only these. */
    private static void library() throws IOException {
        Set<String> allowed = Set.of("Math.max", "Math.min", "Math.abs", "Math.floorDiv", "Math.floorMod", "Integer.bitCount",
            "Arrays.fill", "System.arraycopy", "State.way", "Text.NO_FAULT");
        String code = withoutComments(source());
        Matcher used = Pattern.compile("\\b([A-Z]\\w*\\.\\w+)").matcher(code.replace("import java.util.Arrays;", ""));
        while (used.find()) {
            due.holds("in the library's list, or our own: " + used.group(1), allowed.contains(used.group(1)));
        }
        due.holds("one import", code.split("\\bimport\\b", -1).length == 2);
    }

    /** A method begins with a line that ends in ") {" and ends with a brace as far to the right. */
    private static void lengths() throws IOException {
        String[] lines = source().split("\n");
        Pattern head = Pattern.compile("( {4}| {8})(public|private) .*\\) \\{");
        int methods = 0;
        for (int from = 0; from < lines.length; from++) {
            Matcher m = head.matcher(lines[from]);
            if (m.matches()) {
                int to = from;
                while (to < lines.length && !lines[to].equals(m.group(1) + "}")) {
                    to++;
                }
                due.holds("some sixty lines: " + lines[from].trim(), to - from < 60);
                methods++;
            }
        }
        due.holds("methods were found: " + methods, methods > FACE.size());
    }

    /** Any arguments in any state, far beyond 512 calls: what is answered then is free, but nothing may throw. */
    private static void neverThrows() throws ReflectiveOperationException {
        Random random = new Random(4);
        int[] some = {0, 1, 2, 3, 4, 5, 6, 7, 8, 15, 16, 20, 21, -1, 200, 9999, Integer.MAX_VALUE, Integer.MIN_VALUE};
        String letters = "k0 99;k10 100;k5000 110;lfs;0123456789 ";
        Method[] methods = LiarClocks.class.getMethods();
        for (int run = 0; run < 20; run++) {
            LiarClocks x = Due.of("k0 90;k9999 110;k5 100;k7 99;l1;f1;");
            for (int call = 0; call < 20000; call++) {
                Method m = methods[random.nextInt(methods.length)];
                if (m.getDeclaringClass() != LiarClocks.class) {
                    continue;
                }
                if (m.getName().equals("clocks") && random.nextInt(40) > 0) {
                    continue;
                }
                Object[] with = new Object[m.getParameterCount()];
                for (int p = 0; p < with.length; p++) {
                    boolean isTruth = m.getParameterTypes()[p] == boolean.class;
                    int number = m.getName().equals("feed") ? letters.charAt(random.nextInt(letters.length()))
                        : random.nextInt(50) == 0 ? random.nextInt() : some[random.nextInt(some.length)];
                    with[p] = isTruth ? (Object) random.nextBoolean() : (Object) number;
                }
                m.invoke(x, with);
            }
        }
        due.holds("no call threw", true);
    }
}
