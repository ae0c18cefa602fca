import com.sun.management.ThreadMXBean;
import java.io.IOException;
import java.lang.management.ManagementFactory;
import java.lang.reflect.Array;
import java.lang.reflect.Constructor;
import java.lang.reflect.Field;
import java.lang.reflect.Method;
import java.lang.reflect.Modifier;
import java.nio.file.Files;
import java.nio.file.Path;
import java.util.Arrays;
import java.util.Set;
import java.util.TreeSet;
import java.util.regex.Matcher;
import java.util.regex.Pattern;
import java.util.stream.Collectors;

/** The public face, what can be seen of LANGUAGE.md's rules, and that calls make no objects. */
public final class FaceTest {
    private static final Due D = new Due("FaceTest");
    private static final String[] FACE = {
        "int table(int,int,int,int)", "int ofCell(int,int)", "int ofColumn(int,int)", "int content(int,int,int)",
        "int promise(int,int)", "int manner(int)", "int width(int,int)", "int whole(int,int)",
        "int day(int,int,int,int,int,int)", "int firstFit(int)", "int share(int,int)", "long mean(int)",
        "int reading(int,int,int)", "int back(int)", "int kinds(int)", "int lows(int)", "int manners()",
        "long odds(int,int,int)", "int sheet(int,int,int)", "int lose(int)", "int put(int,int,int)",
        "long cell(int,int,int)", "int copy(int,int,int,int,int)", "int tell(int)", "int print(int)", "int as(int,int)",
        "int trace()", "int fault()", "int many(int)"};
    private static final String[] CONSTANTS = {"int UNKNOWN", "int OUTSIDE", "int STATE", "int FULL", "int NONE", "long LOST"};

    public static void main(String[] args) throws IOException, IllegalAccessException {
        constants();
        methods();
        members();
        classesInside();
        source();
        library();
        methodsAreShort();
        roomOfOne();
        callsMakeNothing();
        D.end();
    }

    private static void dueSets(String what, Set<String> got, Set<String> want) {
        if (!got.equals(want)) System.out.println(what + " are " + got + ", due are " + want);
        D.due(what, got.equals(want) ? 1 : 0, 1);
    }

    private static void holds(String what, boolean is) {
        D.due(what, is ? 1 : 0, 1);
    }

    private static void constants() {
        D.due("UNKNOWN", SpanWidths.UNKNOWN, -1);
        D.due("OUTSIDE", SpanWidths.OUTSIDE, -2);
        D.due("STATE", SpanWidths.STATE, -3);
        D.due("FULL", SpanWidths.FULL, -4);
        D.due("NONE", SpanWidths.NONE, -9);
        D.due("LOST", SpanWidths.LOST, Long.MIN_VALUE);
    }

    private static void methods() {
        Set<String> got = new TreeSet<>(), hidden = new TreeSet<>(), names = new TreeSet<>();
        for (Method m : SpanWidths.class.getDeclaredMethods()) {
            String parameters = Arrays.stream(m.getParameterTypes()).map(Class::getName).collect(Collectors.joining(","));
            if (Modifier.isPrivate(m.getModifiers())) {
                hidden.add(m.getName());
            } else {
                names.add(m.getName());
                holds(m.getName() + " is public, no static", Modifier.isPublic(m.getModifiers()) && !Modifier.isStatic(m.getModifiers()));
                got.add(m.getReturnType() + " " + m.getName() + "(" + parameters + ")");
            }
            holds(m.getName() + " has at most seven parameters", m.getParameterCount() <= 7);
        }
        dueSets("methods", got, new TreeSet<>(Arrays.asList(FACE)));
        hidden.retainAll(names);
        dueSets("private methods with a public one's name", hidden, new TreeSet<>());
    }

    private static void members() {
        Set<String> got = new TreeSet<>();
        int own = 0;
        for (Field f : SpanWidths.class.getDeclaredFields()) {
            if (!Modifier.isPrivate(f.getModifiers())) got.add(f.getType() + " " + f.getName());
            if (Modifier.isStatic(f.getModifiers())) holds(f.getName() + " is final", Modifier.isFinal(f.getModifiers()));
            else own++;
        }
        dueSets("constants", got, new TreeSet<>(Arrays.asList(CONSTANTS)));
        holds("some twenty fields", own <= 20);
        Constructor<?>[] made = SpanWidths.class.getDeclaredConstructors();
        D.due("constructors", made.length, 1);
        holds("public, without parameters", Modifier.isPublic(made[0].getModifiers()) && made[0].getParameterCount() == 0);
        int modifiers = SpanWidths.class.getModifiers();
        holds("the class is public and final", Modifier.isPublic(modifiers) && Modifier.isFinal(modifiers));
    }

    private static void classesInside() {
        Class<?>[] inside = SpanWidths.class.getDeclaredClasses();
        holds("some twelve classes", inside.length <= 11);
        for (Class<?> c : inside) {
            int modifiers = c.getModifiers();
            holds(c.getName() + " is static", Modifier.isStatic(modifiers));
            holds(c.getName() + " is not public", !Modifier.isPublic(modifiers) && !Modifier.isProtected(modifiers));
            int own = 0;
            for (Field f : c.getDeclaredFields()) {
                if (!Modifier.isStatic(f.getModifiers())) own++;
                else holds(f.getName() + " is a constant", Modifier.isFinal(f.getModifiers()) && f.getType() == int.class);
            }
            holds(c.getName() + " has some twenty fields", own <= 20);
        }
    }

    private static String text() throws IOException {
        return Files.readString(Path.of("src/main/java/SpanWidths.java"));
    }

    private static String code() throws IOException {
        return text().replaceAll("(?s)/\\*.*?\\*/", " ").replaceAll("//[^\n]*", " ");
    }

    private static void source() throws IOException {
        String text = text();
        String code = code();
        String[] never = {"\\b(throw|throws|try|catch|synchronized|assert|package|default\\s+\\w+\\()\\b", "->", "::", "Exact\\(",
            "\\bstatic\\s*\\{", "\\b(Float|Double|Character|Byte|Short|Object|Thread|Random)\\b", "\\bgoto\\b", "\\bvar\\b"};
        for (String word : never) {
            Matcher m = Pattern.compile(word).matcher(code);
            holds("no " + word, !m.find());
        }
        Matcher m = Pattern.compile("import\\s+([^;]*);").matcher(code);
        while (m.find()) holds("import " + m.group(1), m.group(1).equals("java.util.Arrays"));
        holds("signs 1 to 127", text.chars().allMatch(sign -> sign > 0 && sign < 128));
    }

    private static void library() throws IOException {
        Set<String> used = new TreeSet<>();
        Matcher m = Pattern.compile("\\b[A-Z]\\w*[a-z]\\w*\\.\\w+\\(").matcher(code());
        while (m.find()) used.add(m.group());
        dueSets("calls of the library", used, Set.of("Arrays.fill(", "Math.min(", "System.arraycopy("));
    }

    private static void methodsAreShort() throws IOException {
        String[] lines = text().split("\n");
        int methods = 0;
        for (int k = 0; k < lines.length; k++) {
            Matcher m = Pattern.compile("(    |        )(?!if|for|while|switch)[a-z].*\\) \\{").matcher(lines[k]);
            if (!m.matches()) continue;
            int end = k;
            while (end < lines.length - 1 && !lines[end].equals(m.group(1) + "}")) end++;
            methods++;
            holds("short: " + lines[k], end - k < 60);
        }
        holds("methods were seen", methods >= FACE.length);
    }

    /** What stands in the room for each object: [0] objects and arrays, [1] their fields and elements. */
    private static void count(Object one, int[] found) throws IllegalAccessException {
        found[0]++;
        if (one.getClass().isArray()) {
            found[1] += Array.getLength(one);
            if (!(one instanceof Object[] parts)) return;
            for (Object part : parts) if (part != null) count(part, found);
            return;
        }
        for (Field f : one.getClass().getDeclaredFields()) {
            if (Modifier.isStatic(f.getModifiers())) continue;
            found[1]++;
            f.setAccessible(true);
            Object part = f.get(one);
            if (!f.getType().isPrimitive() && part != null) count(part, found);
        }
    }

    private static void roomOfOne() throws IllegalAccessException {
        int[] found = new int[2];
        count(new SpanWidths(), found);
        holds("a new object is " + found[0] + " objects and arrays", found[0] <= 40);
        holds("with " + found[1] + " fields and elements", found[1] <= 600);
    }

    /** All calls of a run live in one room, so nothing may be made by a call: rows stand from the beginning. */
    private static void callsMakeNothing() {
        ThreadMXBean threads = (ThreadMXBean) ManagementFactory.getThreadMXBean();
        long least = Long.MAX_VALUE;
        for (int round = 0; round < 5; round++) {
            SpanWidths x = Due.of("t6;d0109;d1109;p0209;f3309;d5109");
            long before = threads.getCurrentThreadAllocatedBytes();
            allCalls(x);
            least = Math.min(least, threads.getCurrentThreadAllocatedBytes() - before);
        }
        holds("calls make " + least + " bytes", least < 1024);
    }

    private static void allCalls(SpanWidths x) {
        for (int k = 0; k < 16; k++) {
            x.sheet(0, k % 3, 60);
            x.put(0, 1, 30);
            x.put(0, 0, 1);
            x.copy(0, 0, 0, 30, 30);
            x.cell(0, 0, 0);
            x.day(0, k % 3, 0, 1, 50, 3);
            x.promise(k % 6, k % 10);
            x.manner(k % 3);
            x.reading(k, 0, 0);
            x.kinds(0);
            x.lows(0);
            x.manners();
            x.back(1);
            x.odds(0, 9, 0);
            x.firstFit(k % 5);
            x.share(0, 50);
            x.mean(50);
            x.whole(50, 2);
            x.tell(k % 5);
            x.print(k % 5);
            x.as(k % 5, 1);
            x.content(0, 1, 9);
            x.table(3, 0, 0, 32);
            x.table(3, 0, 0, 31);
            x.lose(0);
        }
    }
}
