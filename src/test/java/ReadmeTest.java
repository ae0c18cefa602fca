import java.io.File;
import java.io.IOException;
import java.net.URL;
import java.net.URLClassLoader;
import java.nio.file.Files;
import java.nio.file.Path;
import java.util.Comparator;
import java.util.List;
import java.util.regex.Matcher;
import java.util.regex.Pattern;
import java.util.stream.Collectors;
import java.util.stream.Stream;
import javax.tools.JavaCompiler;
import javax.tools.ToolProvider;

/** README.md tells the truth: its lines of Java are one program, and each answers the number that stands behind it. */
public final class ReadmeTest {
    private static final Due D = new Due("ReadmeTest");
    private static final Pattern BLOCK = Pattern.compile("(?ms)^```java\n(.*?)^```$");
    private static final Pattern ANSWERED = Pattern.compile("(\\S.*\\));\\s*// (-?[0-9.]+): .*");

    public static void main(String[] args) throws Exception {
        String readme = Files.readString(Path.of("README.md"));
        run(program(readme));
        D.due("README says how tests are run", readme.contains("    .ci/run\n") ? 1 : 0, 1);
        eachTestIsTold(readme);
        D.end();
    }

    /** Asked by the program that is made of README.md. */
    public static void due(String line, String got, String want) {
        if (!got.equals(want)) System.out.println("README.md: " + line + " answered " + got + ", told is " + want);
        D.due(line, got.equals(want) ? 1 : 0, 1);
    }

    private static String program(String readme) {
        StringBuilder lines = new StringBuilder();
        int answered = 0;
        Matcher block = BLOCK.matcher(readme);
        while (block.find()) {
            for (String line : block.group(1).split("\n")) {
                Matcher m = ANSWERED.matcher(line);
                if (m.matches()) {
                    answered++;
                    line = "ReadmeTest.due(\"" + m.group(1) + "\", String.valueOf(" + m.group(1) + "), \"" + m.group(2) + "\");";
                }
                lines.append(line).append('\n');
            }
        }
        D.due("README has lines with answers", answered > 0 ? 1 : 0, 1);
        return "public final class FromReadme { public static void main(String[] args) {\n" + lines + "} }\n";
    }

    private static void run(String program) throws Exception {
        Path folder = Files.createTempDirectory("readme");
        try {
            Path file = Files.writeString(folder.resolve("FromReadme.java"), program);
            JavaCompiler javac = ToolProvider.getSystemJavaCompiler();
            int failed = javac.run(null, null, null, "-cp", System.getProperty("java.class.path"), "-d", folder.toString(), file.toString());
            D.due("README compiles", failed, 0);
            if (failed != 0) return;
            try (URLClassLoader loader = new URLClassLoader(new URL[] {folder.toUri().toURL()})) {
                loader.loadClass("FromReadme").getMethod("main", String[].class).invoke(null, (Object) new String[0]);
            }
        } finally {
            delete(folder);
        }
    }

    private static void delete(Path folder) throws IOException {
        try (Stream<Path> all = Files.walk(folder)) {
            List<File> deepestFirst = all.sorted(Comparator.reverseOrder()).map(Path::toFile).collect(Collectors.toList());
            for (File file : deepestFirst) file.delete();
        }
    }

    private static void eachTestIsTold(String readme) throws IOException {
        try (Stream<Path> files = Files.list(Path.of("src/test/java"))) {
            for (Path file : files.collect(Collectors.toList())) {
                String name = file.getFileName().toString().replace(".java", "");
                if (name.endsWith("Test")) D.due("README tells of " + name, readme.matches("(?s).*\\b" + name + "\\b.*") ? 1 : 0, 1);
            }
        }
    }
}
