import java.lang.reflect.Array;
import java.lang.reflect.Field;
import java.lang.reflect.Modifier;
import java.nio.charset.StandardCharsets;
import java.nio.file.Files;
import java.nio.file.Path;
import java.util.ArrayDeque;
import java.util.Collections;
import java.util.Deque;
import java.util.IdentityHashMap;
import java.util.List;
import java.util.Set;

/** How much room an object takes: little when new, little more when full, and no call but a new tool's makes objects. */
public final class RoomTest {
    private static final Due due = new Due();
    private static final Path FILE = Path.of("src/main/java/LadderForge.java");

    private record Room(int objects, int elements) { }

    public static void main(String[] args) throws Exception {
        Room empty = roomOf(new LadderForge());
        Room full = roomOf(full());
        due.is("a new object's objects and arrays: " + empty, empty.objects <= 60 ? 1 : 0, 1);
        due.is("a new object's fields and elements: " + empty, empty.elements <= 6000 ? 1 : 0, 1);
        due.is("four for each tool: " + full, full.objects - empty.objects, 12 * 4);
        due.is("a full object's fields and elements: " + full, full.elements <= 13000 ? 1 : 0, 1);
        placesOfNew();
        due.end();
    }

    /** Twelve tools, eleven of them of 256 bytes, twelve editions, and a run of each kind. */
    private static LadderForge full() {
        LadderForge f = new LadderForge();
        Due.named(f, 0, "L: load C out plus 1 store C zero Z jump L Z: stop C: byte 0");
        for (int i = 1; i < 12; i++) {
            f.build(0, 7);
        }
        for (int i = 0; i < 12; i++) {
            f.edition(i, i);
        }
        for (int i = 0; i < 8; i++) {
            Due.put(f, i, Due.times("x", 200));
        }
        f.run(0, 7);
        f.stale();
        f.settles(0, 7);
        f.round(0, 1, 7);
        f.needed(0, 11, 0);
        f.weight(4, 11);
        return f;
    }

    private static Room roomOf(Object start) throws IllegalAccessException {
        Set<Object> seen = Collections.newSetFromMap(new IdentityHashMap<>());
        Deque<Object> left = new ArrayDeque<>();
        left.add(start);
        seen.add(start);
        int elements = 0;
        while (!left.isEmpty()) {
            Object one = left.remove();
            elements += one.getClass().isArray() ? array(one, seen, left) : fields(one, seen, left);
        }
        return new Room(seen.size(), elements);
    }

    private static int array(Object one, Set<Object> seen, Deque<Object> left) {
        int length = Array.getLength(one);
        if (one instanceof Object[] all) {
            for (Object part : all) {
                reach(part, seen, left);
            }
        }
        return length;
    }

    private static int fields(Object one, Set<Object> seen, Deque<Object> left) throws IllegalAccessException {
        int found = 0;
        for (Class<?> c = one.getClass(); c != Object.class; c = c.getSuperclass()) {
            for (Field field : c.getDeclaredFields()) {
                if (!Modifier.isStatic(field.getModifiers())) {
                    found++;
                    field.setAccessible(true);
                    if (!field.getType().isPrimitive()) {
                        reach(field.get(one), seen, left);
                    }
                }
            }
        }
        return found;
    }

    private static void reach(Object part, Set<Object> seen, Deque<Object> left) {
        if (part != null && seen.add(part)) {
            left.add(part);
        }
    }

    /** Objects are made for fields, in constructors, and where a tool is kept. */
    private static void placesOfNew() throws Exception {
        List<String> lines = Files.readAllLines(FILE, StandardCharsets.ISO_8859_1);
        for (String line : lines) {
            String at = line.trim();
            boolean allowed = at.startsWith("private final ") || at.startsWith("final ") || at.startsWith("texts[i] = ")
                || at.startsWith("bytes = ") || at.startsWith("led = ") || at.startsWith("tools[toolCount] = new Tool(")
                || at.startsWith("Code copy = ");
            boolean makes = line.matches(".*\\bnew\\b.*") && !at.startsWith("/");
            due.is("no new here: " + at, makes && !allowed ? 1 : 0, 0);
        }
    }
}
