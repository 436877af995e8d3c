import java.io.PrintWriter;
import java.io.StringWriter;
import java.lang.reflect.Method;
import java.net.URL;
import java.net.URLClassLoader;
import java.nio.file.Files;
import java.nio.file.Path;
import java.util.ArrayList;
import java.util.List;
import java.util.Set;
import java.util.TreeSet;
import java.util.regex.Matcher;
import java.util.regex.Pattern;
import java.util.spi.ToolProvider;

/** README.md: its examples compile and answer what stands behind them, and each call is told and used. */
public final class ReadmeTest {
    private static final Path FILE = Path.of("README.md");
    private static final Pattern BLOCK = Pattern.compile("(?s)```java\n(.*?)```");
    private static final Pattern ANSWERED = Pattern.compile("(?:int (\\w+) = )?(.*\\));\\s+// (-?\\d+)\\b.*");
    private static final Due due = new Due();

    public static void main(String[] args) throws Exception {
        String readme = Files.readString(FILE);
        List<String> blocks = found(BLOCK, readme);
        due.is("examples", blocks.size() > 1 ? 1 : 0, 1);
        run(program(blocks));
        calls(readme, String.join("", blocks));
        tests(readme);
        due.end();
    }

    private static List<String> found(Pattern pattern, String in) {
        List<String> all = new ArrayList<>();
        Matcher matcher = pattern.matcher(in);
        while (matcher.find()) {
            all.add(matcher.group(1));
        }
        return all;
    }

    /** The first example is a method; the others are one run of calls. */
    private static String program(List<String> blocks) {
        StringBuilder program = new StringBuilder("public final class Examples {\n");
        program.append(blocks.get(0)).append("public static void ask(java.util.List<Object> told) {\n");
        for (String line : String.join("", blocks.subList(1, blocks.size())).split("\n")) {
            Matcher answered = ANSWERED.matcher(line);
            if (!answered.matches()) {
                due.is("no answer behind: " + line, line.endsWith("new LadderForge();") ? 1 : 0, 1);
                program.append(line).append('\n');
                continue;
            }
            String asked = answered.group(2);
            if (answered.group(1) != null) {
                program.append("int ").append(answered.group(1)).append(" = ").append(asked).append(";\n");
                asked = answered.group(1);
            }
            String shown = answered.group(2).replace("\\", "\\\\").replace("\"", "\\\"");
            program.append("told.add(\"").append(shown).append("\"); told.add((long) ").append(asked)
                .append("); told.add(").append(answered.group(3)).append("L);\n");
        }
        return program.append("}\n}\n").toString();
    }

    private static void run(String program) throws Exception {
        Path directory = Files.createTempDirectory("readme");
        Path file = Files.writeString(directory.resolve("Examples.java"), program);
        StringWriter said = new StringWriter();
        PrintWriter to = new PrintWriter(said);
        int failed = ToolProvider.findFirst("javac").orElseThrow().run(to, to, "--release", "17",
            "-cp", System.getProperty("java.class.path"), "-d", directory.toString(), file.toString());
        due.is("compiles: " + said, failed, 0);
        if (failed == 0) {
            List<Object> told = new ArrayList<>();
            try (URLClassLoader loader = new URLClassLoader(new URL[] {directory.toUri().toURL()})) {
                loader.loadClass("Examples").getMethod("ask", List.class).invoke(null, told);
            }
            for (int i = 0; i < told.size(); i += 3) {
                due.is("" + told.get(i), (long) told.get(i + 1), (long) told.get(i + 2));
            }
            due.is("answers were told", told.isEmpty() ? 0 : 1, 1);
        }
        try (var files = Files.list(directory)) {
            for (Path made : files.toList()) {
                Files.delete(made);
            }
        }
        Files.delete(directory);
    }

    private static void calls(String readme, String examples) {
        Set<String> named = new TreeSet<>(found(Pattern.compile("`(\\w+)\\([^)`]*\\)`"), readme));
        Set<String> used = new TreeSet<>(found(Pattern.compile("forge\\.(\\w+)\\("), examples));
        for (Method method : LadderForge.class.getMethods()) {
            if (method.getDeclaringClass() == LadderForge.class) {
                String name = method.getName();
                due.is("told: " + name, named.contains(name) ? 1 : 0, 1);
                due.is("used in an example: " + name, used.contains(name) ? 1 : 0, 1);
            }
        }
    }

    private static void tests(String readme) throws Exception {
        try (var files = Files.list(Path.of("src/test/java"))) {
            for (Path test : files.toList()) {
                String name = test.getFileName().toString().replace(".java", "");
                due.is("told: " + name, readme.contains("`" + name + "`") ? 1 : 0, 1);
            }
        }
    }
}
