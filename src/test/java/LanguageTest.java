import java.lang.reflect.Constructor;
import java.lang.reflect.Field;
import java.lang.reflect.Method;
import java.lang.reflect.Modifier;
import java.nio.charset.StandardCharsets;
import java.nio.file.Files;
import java.nio.file.Path;
import java.util.ArrayList;
import java.util.Arrays;
import java.util.List;
import java.util.Map;
import java.util.Set;
import java.util.TreeMap;
import java.util.TreeSet;
import java.util.regex.Matcher;
import java.util.regex.Pattern;

/** The public face, and the rules of LANGUAGE.md that can be seen in the file or in the compiled class. */
public final class LanguageTest {
    private static final Path FILE = Path.of("src/main/java/LadderForge.java");
    private static final List<String> FACE = List.of("int type(long, int)", "int clear()", "int text(int)",
        "int read(int, int)", "int pairs(int)", "int named(int)", "int build(int, int)", "int tool(int, int)",
        "int code(int, int, int)", "int run(int, int)", "int ran(int)", "int tape(int, int)", "int rebuilt(int)",
        "int stale()", "int settles(int, int)", "int round(int, int, int)", "int hides(int, int, int)",
        "int check(int, int)", "int chain(int, int)", "int sealed(int)", "int least(int)", "int same(int, int)",
        "int edition(int, int)", "int ladder(int, int, int)", "int needed(int, int, int)", "int weight(int, int)",
        "int count(int)", "long trace()");
    private static final Due due = new Due();

    public static void main(String[] args) throws Exception {
        face();
        members();
        words(plain(Files.readString(FILE, StandardCharsets.ISO_8859_1)));
        lengths();
        due.end();
    }

    private static void none(String what, Object found) {
        due.is(what + " " + found, found.toString().equals("[]") ? 0 : 1, 0);
    }

    private static String told(Method method) {
        List<String> takes = new ArrayList<>();
        for (Class<?> type : method.getParameterTypes()) {
            takes.add(type.getSimpleName());
        }
        return method.getReturnType().getSimpleName() + " " + method.getName() + "(" + String.join(", ", takes) + ")";
    }

    private static void face() {
        Class<?> c = LadderForge.class;
        due.is("public and final", c.getModifiers(), Modifier.PUBLIC | Modifier.FINAL);
        Set<String> methods = new TreeSet<>();
        for (Method method : c.getDeclaredMethods()) {
            if (!Modifier.isPrivate(method.getModifiers())) {
                methods.add(told(method));
                due.is("public alone: " + method, method.getModifiers(), Modifier.PUBLIC);
            }
        }
        due.is("the methods of the face: " + methods, methods.equals(new TreeSet<>(FACE)) ? 1 : 0, 1);
        Set<String> fields = new TreeSet<>();
        for (Field field : c.getDeclaredFields()) {
            if (!Modifier.isPrivate(field.getModifiers())) {
                fields.add(field.getName());
                due.is("a constant: " + field, field.getModifiers(),
                    Modifier.PUBLIC | Modifier.STATIC | Modifier.FINAL);
            }
        }
        due.is("the constants: " + fields, fields.equals(Set.of("BAD", "STATE", "FULL", "NONE")) ? 1 : 0, 1);
        Constructor<?>[] all = c.getDeclaredConstructors();
        due.is("one constructor", all.length, 1);
        due.is("without arguments", all[0].getParameterCount(), 0);
        due.is("BAD", LadderForge.BAD, -1);
        due.is("STATE", LadderForge.STATE, -2);
        due.is("FULL", LadderForge.FULL, -3);
        due.is("NONE", LadderForge.NONE, -9);
    }

    private static void members() {
        List<Class<?>> classes = new ArrayList<>(Arrays.asList(LadderForge.class.getDeclaredClasses()));
        Set<String> faceNames = new TreeSet<>();
        for (String method : FACE) {
            faceNames.add(method.replaceAll("^\\w+ |\\(.*", ""));
        }
        classes.add(LadderForge.class);
        due.is("at most twelve classes", classes.size() <= 12 ? 1 : 0, 1);
        for (Class<?> c : classes) {
            boolean inside = c != LadderForge.class;
            due.is("static and not public: " + c, !inside || Modifier.isStatic(c.getModifiers())
                && !Modifier.isPublic(c.getModifiers()) && !Modifier.isProtected(c.getModifiers()) ? 1 : 0, 1);
            int fields = 0;
            for (Field field : c.getDeclaredFields()) {
                boolean fixed = Modifier.isStatic(field.getModifiers());
                fields += fixed ? 0 : 1;
                due.is("static, so final: " + field, !fixed || Modifier.isFinal(field.getModifiers()) ? 1 : 0, 1);
            }
            due.is("at most twenty fields: " + c, fields <= 20 ? 1 : 0, 1);
            for (Method method : c.getDeclaredMethods()) {
                due.is("at most seven arguments: " + method, method.getParameterCount() <= 7 ? 1 : 0, 1);
                boolean hidden = inside || Modifier.isPrivate(method.getModifiers());
                due.is("no name of the face: " + method, hidden && faceNames.contains(method.getName()) ? 1 : 0, 0);
            }
        }
    }

    /** The file without its remarks and what stands in quotes. */
    private static String plain(String source) {
        for (int i = 0; i < source.length(); i++) {
            char sign = source.charAt(i);
            due.is("signs 10 and 32 to 126, at " + i, sign == 10 || sign >= 32 && sign < 127 ? 1 : 0, 1);
        }
        return source.replaceAll("\"(?:[^\"\\\\\n]|\\\\.)*\"", "\"\"").replaceAll("'(?:[^'\\\\\n]|\\\\.)'", "' '")
            .replaceAll("//[^\n]*", "").replaceAll("(?s)/\\*.*?\\*/", "");
    }

    private static List<String> found(String pattern, String in) {
        List<String> all = new ArrayList<>();
        Matcher matcher = Pattern.compile(pattern).matcher(in);
        while (matcher.find()) {
            all.add(matcher.group());
        }
        return all;
    }

    private static void words(String plain) {
        none("words that are left out", found("\\b(throw|throws|try|catch|finally|synchronized|assert|import|package|"
            + "volatile|transient|native|yield|var|goto|Object|Exception|Error|Thread|System\\.(?!arraycopy))\\b", plain));
        none("lambdas, method references, annotations", found("->|::|@", plain));
        none("equals, hashCode, toString", found("\\b(hashCode|toString|getClass)\\b", plain));
        none("the Exact functions", found("\\w+Exact\\b", plain));
        none("static blocks", found("static\\s*\\{", plain));
        none("loops without a condition", found("while\\s*\\(\\s*true\\s*\\)|for\\s*\\([^;]*;\\s*;", plain));
        none("joining texts by +", found("\"\\s*\\+|\\+\\s*\"", plain));
    }

    /** What opens a method or a constructor, four or eight blanks in; its name. */
    private static final Pattern OPENS = Pattern.compile("(?:    |        )(?!if|for|while|switch|do\\b)[a-zA-Z][^=;]*?(\\w+)\\([^=;]*\\) \\{");

    /** Methods of one name count as one: what is seen is at least as deep as what is. */
    private static void lengths() throws Exception {
        List<String> lines = Files.readAllLines(FILE, StandardCharsets.ISO_8859_1);
        Map<String, Set<String>> calls = new TreeMap<>();
        for (int i = 0; i < lines.size(); i++) {
            String line = lines.get(i);
            due.is("a line's length: " + line, line.length() <= 120 ? 1 : 0, 1);
            Matcher opens = OPENS.matcher(line);
            if (opens.matches()) {
                String in = line.startsWith("        ") ? "        " : "    ";
                int end = lines.subList(i, lines.size()).indexOf(in + "}");
                due.is("at most sixty lines: " + line.trim(), end >= 0 && end < 60 ? 1 : 0, 1);
                String body = plain(String.join("\n", lines.subList(i + 1, i + end)));
                calls.computeIfAbsent(opens.group(1), name -> new TreeSet<>()).addAll(found("\\b\\w+(?=\\()", body));
            }
        }
        due.is("methods were found", calls.keySet().containsAll(List.of("trace", "goThrough", "faultIn", "step")) ? 1 : 0, 1);
        for (String name : calls.keySet()) {
            due.is("calls at most eight deep, none in a ring: " + name, deep(name, calls, 0) <= 8 ? 1 : 0, 1);
        }
    }

    private static int deep(String name, Map<String, Set<String>> calls, int above) {
        int most = 0;
        if (above < 12) {
            for (String other : calls.getOrDefault(name, Set.of())) {
                most = Math.max(most, deep(other, calls, above + 1));
            }
        }
        return 1 + most;
    }
}
