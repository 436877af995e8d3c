/** TEXTS, TOOLS, BUILT (part 2 of the document, promises 1 to 10): each sentence with a boundary, one method each. */
public final class EdgesToolsTest {
    private static final int[] FAR = {Integer.MIN_VALUE, Integer.MAX_VALUE};
    private static final String COPY = "L: in end Z out jump L Z: stop";
    /** Puts out 0, 1 and so on up to 255. */
    private static final String COUNTS = "L: load C out plus 1 store C zero Z jump L Z: stop C: byte 0";
    private static final Due due = new Due();

    public static void main(String[] args) {
        nothingIsThere();
        lowestBytes();
        numberOfBytes();
        typedIsFull();
        cleared();
        textBecomes();
        textOfNothing();
        textNumbers();
        readBounds();
        twelveTools();
        oneToMostBytes();
        toolsStay();
        builtLed();
        builtState();
        builtRefused();
        toolTold();
        codeTold();
        due.end();
    }

    private static void nothingIsThere() {
        due.sentence("A new object: Nothing is there");
        LadderForge f = new LadderForge();
        for (int what = 0; what < 5; what++) {
            due.is("count(" + what + ")", f.count(what), 0);
        }
        for (int i = 0; i < 8; i++) {
            due.is("TEXTS are empty at first, " + i, f.read(i, 0), LadderForge.BAD);
        }
        due.is("stale", f.stale(), 0);
        due.is("least of none", f.least(0), 0);
        due.is("trace", f.trace(), 0);
        due.is("no tool", f.tool(0, 0), LadderForge.BAD);
        due.is("no edition", f.ladder(0, 0, -1), LadderForge.BAD);
        LadderForge used = new LadderForge();
        Due.tool(used, 0, 2, 0);
        used.edition(1, 1);
        used.weight(5, 0);
        due.is("another object has none of it", new LadderForge().count(0), 0);
        due.is("nor of its trace", new LadderForge().trace(), 0);
    }

    private static void lowestBytes() {
        due.sentence("The lowest n (1 .. 8) bytes of v, the highest of them first");
        long v = 0x81f2a3b4c5d6e7f8L;
        for (int n = 1; n <= 8; n++) {
            LadderForge f = new LadderForge();
            due.is("type(v, " + n + ")", f.type(v, n), n);
            due.is("text", f.text(0), n);
            for (int at = 0; at < n; at++) {
                due.is("n " + n + ", byte " + at, f.read(0, at), v >>> 8 * (n - 1 - at) & 255);
            }
            due.is("no more", f.read(0, n), LadderForge.BAD);
        }
        long[] ends = {0, -1, Long.MIN_VALUE, Long.MAX_VALUE, 255, 256};
        for (long end : ends) {
            LadderForge f = new LadderForge();
            f.type(end, 8);
            f.text(0);
            due.is("the highest of " + end, f.read(0, 0), end >>> 56);
            due.is("the lowest of " + end, f.read(0, 7), end & 255);
        }
    }

    private static void numberOfBytes() {
        due.sentence("The lowest n (1 .. 8) bytes .. BAD");
        LadderForge f = new LadderForge();
        int[] wrong = {0, 9, -1, 10, 255, 256, Integer.MIN_VALUE, Integer.MAX_VALUE};
        for (int n : wrong) {
            due.is("type(7, " + n + ")", f.type(7, n), LadderForge.BAD);
        }
        due.is("nothing is typed", f.count(2), 0);
        due.is("one is", f.type(7, 1), 1);
        due.is("eight more are", f.type(7, 8), 9);
    }

    private static void typedIsFull() {
        due.sentence("come to what is typed: how many it has .. FULL (TEXTS: 200 bytes at most)");
        for (int n = 1; n <= 8; n++) {
            LadderForge f = new LadderForge();
            Due.type(f, Due.times("x", 201 - n));
            due.is("one too many, n " + n, f.type(0, n), LadderForge.FULL);
            due.is("nothing came of it", f.count(2), 201 - n);
            due.is("BAD ahead of FULL", f.type(0, 9), LadderForge.BAD);
            due.is("less fit", n > 1 ? f.type(0, n - 1) : 200, 200);
            due.is("200 are full", f.type(0, 1), LadderForge.FULL);
            due.is("the text", f.text(0), 200);
            due.is("the last of x", f.read(0, 200 - n), 'x');
            due.is("behind text() there is room again", f.type(1, 8), 8);
        }
        LadderForge f = new LadderForge();
        Due.type(f, Due.times("x", 192));
        due.is("just 200", f.type(-1, 8), 200);
        due.is("a 201st", f.type(0, 1), LadderForge.FULL);
        due.is("clear", f.clear(), 200);
        due.is("behind clear() there is room again", f.type(0, 8), 8);
    }

    private static void cleared() {
        due.sentence("What is typed is empty: how many bytes it had");
        LadderForge f = new LadderForge();
        due.is("of none", f.clear(), 0);
        f.type(0x616263, 3);
        due.is("of three", f.clear(), 3);
        due.is("then of none", f.clear(), 0);
        due.is("nothing is typed", f.count(2), 0);
        Due.put(f, 2, "ab");
        due.is("of none behind text()", f.clear(), 0);
        due.is("texts stay", f.read(2, 1), 'b');
        f.type('c', 1);
        f.clear();
        due.is("a text of what was cleared", f.text(3), 0);
    }

    private static void textBecomes() {
        due.sentence("What is typed becomes a TEXT, and is empty then: how many bytes the TEXT has");
        LadderForge f = new LadderForge();
        f.type(0x616263, 3);
        due.is("three", f.text(0), 3);
        due.is("and is empty then", f.count(2), 0);
        f.type(0x78, 1);
        due.is("the text is not what is typed next", f.read(0, 0), 'a');
        due.is("a shorter one", f.text(0), 1);
        due.is("its byte", f.read(0, 0), 'x');
        due.is("nothing of the longer one", f.read(0, 1), LadderForge.BAD);
        f.type(0x79, 1);
        f.text(1);
        due.is("texts stand apart", f.read(0, 0), 'x');
        due.is("the second", f.read(1, 0), 'y');
    }

    private static void textOfNothing() {
        due.sentence("What is typed becomes a TEXT (of nothing typed: an empty one)");
        LadderForge f = new LadderForge();
        due.is("of nothing", f.text(4), 0);
        Due.put(f, 4, "abc");
        due.is("it is empty again", f.text(4), 0);
        due.is("no byte", f.read(4, 0), LadderForge.BAD);
        due.is("a fault at its length", f.pairs(4), -10);
    }

    private static void textNumbers() {
        due.sentence("TEXTS 0 .. 7 .. BAD");
        LadderForge f = new LadderForge();
        Due.named(f, 0, "set 1 out stop");
        f.type(0x6162, 2);
        int[] wrong = {-1, 8, Integer.MIN_VALUE, Integer.MAX_VALUE};
        for (int i : wrong) {
            due.is("text", f.text(i), LadderForge.BAD);
            due.is("what is typed stays", f.count(2), 2);
            due.is("read", f.read(i, 0), LadderForge.BAD);
            due.is("pairs", f.pairs(i), LadderForge.BAD);
            due.is("named", f.named(i), LadderForge.BAD);
            due.is("build", f.build(0, i), LadderForge.BAD);
            due.is("run", f.run(0, i), LadderForge.BAD);
            due.is("settles", f.settles(0, i), LadderForge.BAD);
            due.is("round", f.round(0, 0, i), LadderForge.BAD);
            due.is("hides", f.hides(0, 0, i), LadderForge.BAD);
        }
        due.is("one tool", f.count(0), 1);
        for (int i = 0; i < 8; i++) {
            due.is("text(" + i + ")", f.text(i), i == 0 ? 2 : 0);
            due.is("build of " + i, f.build(0, i), 1 + i);
            due.is("run on " + i, f.run(0, i), 1);
        }
    }

    private static void readBounds() {
        due.sentence("A byte of a TEXT. BAD");
        LadderForge f = new LadderForge();
        Due.put(f, 7, Due.signs(255) + Due.times("x", 198) + Due.signs(0));
        due.is("the first", f.read(7, 0), 255);
        due.is("the last", f.read(7, 199), 0);
        due.is("behind the last", f.read(7, 200), LadderForge.BAD);
        due.is("ahead of the first", f.read(7, -1), LadderForge.BAD);
        Due.put(f, 0, "a");
        due.is("the one of one", f.read(0, 0), 'a');
        due.is("a second of one", f.read(0, 1), LadderForge.BAD);
        for (int far : FAR) {
            due.is("far", f.read(7, far), LadderForge.BAD);
            due.is("far texts", f.read(far, 0), LadderForge.BAD);
        }
    }

    private static void twelveTools() {
        due.sentence("TOOLS (12 at most)");
        LadderForge f = new LadderForge();
        Due.put(f, 0, "0200");
        Due.put(f, 1, "set 9 out");
        for (int i = 0; i < 12; i += 3) {
            due.is("by PAIRS", f.pairs(0), i);
            due.is("by NAMED", f.named(1), i + 1);
            due.is("BUILT", f.build(i + 1, 7), i + 2);
        }
        due.is("a 13th by PAIRS", f.pairs(0), LadderForge.FULL);
        due.is("a 13th by NAMED", f.named(1), LadderForge.FULL);
        due.is("a 13th BUILT", f.build(1, 7), LadderForge.FULL);
        due.is("12 are there", f.count(0), 12);
        due.is("the last is as it was", f.code(11, 0, 0), 9);
        due.is("a tool 12 is none", f.tool(12, 0), LadderForge.BAD);
        due.is("a run is no 13th", f.run(1, 7), 1);
        due.is("nor is settling", f.settles(1, 7), LadderForge.NONE);
        due.is("nor is being rebuilt", f.rebuilt(11), 0);
        due.is("the last can be changed", f.check(9, 1), 0);
    }

    private static void oneToMostBytes() {
        due.sentence("TOOLS .. have 1 .. 256 bytes");
        LadderForge f = new LadderForge();
        due.is("one pair", Due.tool(f, 0, 255), 0);
        due.is("one byte", f.tool(0, 0), 1);
        due.is("one word", Due.named(f, 0, "stop"), 1);
        due.is("one byte", f.tool(1, 0), 1);
        due.is("one out", f.build(Due.tool(f, 0, 2, 0), 7), 3);
        due.is("one byte", f.tool(3, 0), 1);
        due.is("none put out", f.build(1, 7), LadderForge.STATE);
        due.is("256 put out", f.build(Due.named(f, 0, COUNTS), 7), 5);
        due.is("256 bytes", f.tool(5, 0), 256);
        due.is("the first", f.code(5, 0, 0), 0);
        due.is("the last", f.code(5, 255, 0), 255);
        due.is("behind the last", f.code(5, 256, 0), LadderForge.BAD);
        due.is("257 put out", f.build(Due.named(f, 0, COUNTS.replace("stop", "out stop")), 7), LadderForge.STATE);
        due.is("7 tools", f.count(0), 7);
    }

    private static void toolsStay() {
        due.sentence("a TOOL's bytes and its TEXT stay when the TEXT is typed anew");
        LadderForge f = new LadderForge();
        Due.tool(f, 3, 1, 2, 3);
        Due.named(f, 4, COPY);
        Due.put(f, 5, "xy");
        f.build(1, 5);
        Due.put(f, 3, "0400");
        Due.put(f, 4, "in");
        Due.put(f, 5, "");
        int[] bytes = {3, 7, 2};
        for (int i = 0; i < 3; i++) {
            due.is("bytes of " + i, f.tool(i, 0), bytes[i]);
            due.is("text of " + i, f.tool(i, 2), 3 + i);
        }
        due.is("a byte by PAIRS", f.code(0, 2, 0), 3);
        due.is("LED as it was", f.code(0, 2, 1), 4);
        due.is("a byte by NAMED", f.code(1, 1, 0), 13);
        due.is("a byte that was BUILT", f.code(2, 1, 0), 'y');
    }

    private static void led(LadderForge f, int tool, int... want) {
        for (int at = 0; at < want.length; at++) {
            due.is("led " + at, f.code(tool, at, 1), want[at]);
        }
        due.is("no more", f.code(tool, want.length, 1), LadderForge.BAD);
    }

    private static void builtLed() {
        due.sentence("LED to how many bytes of THE TAPE IN were read as each was put out, less 1 (0 of none)");
        LadderForge f = new LadderForge();
        int builder = Due.named(f, 0, "out in out out in out in out in out stop");
        Due.put(f, 1, "xy");
        // read: 0, 1, 1, 2, and then no more
        led(f, f.build(builder, 1), 0, 0, 0, 1, 1, 1);
        Due.put(f, 1, "");
        led(f, f.build(builder, 1), 0, 0, 0, 0, 0, 0);
        Due.put(f, 1, Due.times("x", 199) + "y");
        int copied = f.build(Due.named(f, 0, COPY), 1);
        due.is("200 bytes", f.tool(copied, 0), 200);
        due.is("the first", f.code(copied, 0, 1), 0);
        due.is("the last", f.code(copied, 199, 1), 199);
        int late = f.build(Due.named(f, 0, "L: in end Z jump L Z: out"), 1);
        led(f, late, 199);
    }

    private static void builtState() {
        due.sentence("THE TAPE OUT becomes a TOOL (STATE: HARM, or nothing was put out)");
        LadderForge f = new LadderForge();
        int[][] tools = {{0}, {16}, {2, 16}, {2, 11, 0}, {11, 0}, {2, 11, 1}};
        for (int[] bytes : tools) {
            int tool = Due.tool(f, 0, bytes);
            due.is("built by " + tool, f.build(tool, 7), LadderForge.STATE);
            due.is("none is made", f.count(0), tool + 1);
        }
        int copy = Due.named(f, 0, COPY);
        due.is("nothing of nothing", f.build(copy, 7), LadderForge.STATE);
        Due.put(f, 7, Due.signs(0));
        due.is("one of one", f.build(copy, 7), copy + 1);
        due.is("a stop puts nothing out", f.build(copy + 1, 7), LadderForge.STATE);
    }

    private static void builtRefused() {
        due.sentence("A TOOL is BUILT by a TOOL from a TEXT: its number. BAD; STATE; FULL.");
        LadderForge f = new LadderForge();
        due.is("no tool is there", f.build(0, 0), LadderForge.BAD);
        int silent = Due.tool(f, 0, 0);
        int good = Due.tool(f, 0, 2, 0);
        int[] none = {-1, 2, 12, Integer.MIN_VALUE, Integer.MAX_VALUE};
        for (int tool : none) {
            due.is("build(" + tool + ", 0)", f.build(tool, 0), LadderForge.BAD);
        }
        due.is("BAD ahead of STATE", f.build(silent, 8), LadderForge.BAD);
        due.is("refused ones take no number", f.build(good, 0), 2);
        for (int i = 3; i < 12; i++) {
            due.is("built", f.build(good, 0), i);
        }
        due.is("FULL", f.build(good, 0), LadderForge.FULL);
        due.is("STATE ahead of FULL", f.build(silent, 0), LadderForge.STATE);
        due.is("BAD ahead of FULL", f.build(good, 8), LadderForge.BAD);
        due.is("BAD ahead of FULL, too", f.build(12, 0), LadderForge.BAD);
    }

    private static void toolTold() {
        due.sentence("Of a TOOL: 0 how many bytes, 1 how it was made, 2 its TEXT, 3 its builder (NONE), 4 whether it is CHECKED. BAD.");
        LadderForge f = new LadderForge();
        Due.tool(f, 0, 2, 0);
        Due.named(f, 7, "out in out");
        f.build(1, 3);
        int[][] want = {{2, 0, 0, LadderForge.NONE, 0}, {3, 1, 7, LadderForge.NONE, 0}, {2, 2, 3, 1, 0}};
        for (int tool = 0; tool < 3; tool++) {
            for (int what = 0; what < 5; what++) {
                due.is("tool(" + tool + ", " + what + ")", f.tool(tool, what), want[tool][what]);
            }
            due.is("what 5", f.tool(tool, 5), LadderForge.BAD);
            due.is("what -1", f.tool(tool, -1), LadderForge.BAD);
        }
        f.check(0, 1);
        due.is("CHECKED", f.tool(0, 4), 1);
        due.is("built by the first one", f.tool(f.build(0, 3), 3), 0);
        due.is("tool(4, 0)", f.tool(4, 0), LadderForge.BAD);
        due.is("tool(-1, 0)", f.tool(-1, 0), LadderForge.BAD);
        for (int far : FAR) {
            due.is("far", f.tool(far, 0), LadderForge.BAD);
            due.is("far what", f.tool(0, far), LadderForge.BAD);
        }
    }

    private static void codeTold() {
        due.sentence("A byte of a TOOL (what = 0), to which place it is LED (1). BAD.");
        LadderForge f = new LadderForge();
        due.is("no tool is there", f.code(0, 0, 0), LadderForge.BAD);
        Due.tool(f, 0, 255, 0);
        due.is("the first", f.code(0, 0, 0), 255);
        due.is("the last", f.code(0, 1, 0), 0);
        due.is("the last is LED", f.code(0, 1, 1), 2);
        for (int what = 0; what < 2; what++) {
            due.is("behind the last", f.code(0, 2, what), LadderForge.BAD);
            due.is("ahead of the first", f.code(0, -1, what), LadderForge.BAD);
            due.is("no such tool", f.code(1, 0, what), LadderForge.BAD);
            due.is("nor this", f.code(-1, 0, what), LadderForge.BAD);
            for (int far : FAR) {
                due.is("far", f.code(0, far, what), LadderForge.BAD);
                due.is("far tool", f.code(far, 0, what), LadderForge.BAD);
            }
        }
        int[] wrong = {-1, 2, Integer.MIN_VALUE, Integer.MAX_VALUE};
        for (int what : wrong) {
            due.is("what " + what, f.code(0, 0, what), LadderForge.BAD);
        }
    }
}
