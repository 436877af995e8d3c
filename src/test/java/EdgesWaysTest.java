/** Part 3 of the document, promises 14 to 23: each sentence with a boundary, one method each. */
public final class EdgesWaysTest {
    private static final int[] FAR = {Integer.MIN_VALUE, Integer.MAX_VALUE};
    private static final String COPY = "L: in end Z out jump L Z: stop";
    /** The bytes of COPY as a text: COPY builds itself from it. */
    private static final String COPY_SIGNS = Due.signs(1, 13, 6, 2, 11, 0, 0);
    /** Does HARM by its first byte: 1, 2, 3, nothing put out; or puts that byte out. */
    private static final String FIVE = "in store B plus 255 zero H plus 255 zero O plus 255 zero E plus 255 zero Z "
        + "load B out Z: stop H: byte 16 O: out jump O E: jump E B: byte 0";
    private static final Due due = new Due();

    public static void main(String[] args) {
        rebuiltUnlike();
        rebuiltWhereOneEnds();
        rebuiltHarm();
        rebuiltFault();
        rebuiltByBuilderAsItIs();
        rebuiltRefused();
        staleItself();
        staleByBuilder();
        staleOfTwelve();
        settlesAt();
        settlesNot();
        settlesHarm();
        settlesRefused();
        roundUnlike();
        roundState();
        roundRefused();
        hidesBoth();
        hidesState();
        checkedByPairs();
        checkRefused();
        chainLengths();
        chainRefused();
        sealedChain();
        sealedRefused();
        leastOfSet();
        leastLeavesOut();
        leastBitsBeyond();
        sameUnlike();
        sameRefused();
        due.end();
    }

    private static void againFrom(LadderForge f, int tool, int text, String signs, int want) {
        Due.put(f, text, signs);
        due.is("rebuilt from '" + signs + "'", f.rebuilt(tool), want);
    }

    private static void rebuiltUnlike() {
        due.sentence("whether it is the same: 0; else 1 and the first place at which bytes are unlike");
        LadderForge f = new LadderForge();
        int pairs = Due.tool(f, 0, 1, 2, 3);
        againFrom(f, pairs, 0, "010203", 0);
        againFrom(f, pairs, 0, " 01 # x\n02 03", 0);
        againFrom(f, pairs, 0, "ff0203", 1);
        againFrom(f, pairs, 0, "01ff03", 2);
        againFrom(f, pairs, 0, "0102ff", 3);
        againFrom(f, pairs, 0, "ffffff", 1);
        againFrom(f, pairs, 0, "01ffffff", 2);
        Due.put(f, 1, Due.times("00", 100));
        int longest = f.pairs(1);
        againFrom(f, longest, 1, Due.times("00", 99) + "01", 100);
        int named = Due.named(f, 2, "in in out");
        againFrom(f, named, 2, "in in in", 3);
        againFrom(f, named, 2, "byte 1 byte 1 byte 2", 0);
    }

    private static void rebuiltWhereOneEnds() {
        due.sentence("1 and the first place at which bytes are unlike (or one of both ends)");
        LadderForge f = new LadderForge();
        int pairs = Due.tool(f, 0, 1, 2);
        againFrom(f, pairs, 0, "01", 2);
        againFrom(f, pairs, 0, "010203", 3);
        againFrom(f, pairs, 0, "01020304", 3);
        int copy = Due.named(f, 1, COPY);
        Due.put(f, 2, Due.times("x", 199));
        int built = f.build(copy, 2);
        againFrom(f, built, 2, Due.times("x", 200), 200);
        againFrom(f, built, 2, Due.times("x", 198), 199);
        againFrom(f, built, 2, "x", 2);
        // 256 bytes, then 255 by another first byte
        int most = Due.named(f, 3, "in store C L: load C out plus 1 store C zero Z jump L Z: stop C: byte 0");
        Due.put(f, 4, "");
        int whole = f.build(most, 4);
        due.is("256 bytes", f.tool(whole, 0), 256);
        againFrom(f, whole, 4, Due.signs(1), 1);
        int less = f.build(most, 4);
        due.is("255 bytes", f.tool(less, 0), 255);
        due.is("which are others", f.same(whole, less), 1);
        againFrom(f, less, 4, Due.signs(0), 1);
    }

    private static void rebuiltHarm() {
        due.sentence("REBUILT: .. -10 less HARM");
        LadderForge f = new LadderForge();
        int five = Due.named(f, 0, FIVE);
        Due.put(f, 1, "A");
        int built = f.build(five, 1);
        due.is("one byte", f.code(built, 0, 0), 'A');
        againFrom(f, built, 1, Due.signs(1), -11);
        againFrom(f, built, 1, Due.signs(2), -12);
        againFrom(f, built, 1, Due.signs(3), -13);
        againFrom(f, built, 1, "A", 0);
        due.is("no HARM is left", f.stale(), 0);
    }

    private static void rebuiltFault() {
        due.sentence("REBUILT: .. -20: there is a FAULT, or nothing came");
        LadderForge f = new LadderForge();
        int pairs = Due.tool(f, 0, 1);
        int named = Due.named(f, 1, "in");
        int five = Due.named(f, 2, FIVE);
        Due.put(f, 3, "A");
        int built = f.build(five, 3);
        againFrom(f, pairs, 0, "", -20);
        againFrom(f, pairs, 0, "0", -20);
        againFrom(f, pairs, 0, "01x", -20);
        againFrom(f, pairs, 0, "in", -20);
        againFrom(f, named, 1, "", -20);
        againFrom(f, named, 1, "set", -20);
        againFrom(f, named, 1, "in set B", -20);
        againFrom(f, named, 1, "01", -20);
        againFrom(f, built, 3, Due.signs(4), -20);
        due.is("all three and what is BUILT by none of them", f.stale(), 1 << pairs | 1 << named | 1 << built);
    }

    private static void rebuiltByBuilderAsItIs() {
        due.sentence("a TOOL made again from its TEXT as it is now (by PAIRS, NAMED, or its builder as it is)");
        LadderForge f = new LadderForge();
        int copy = Due.named(f, 0, COPY);
        Due.put(f, 1, "ab");
        int built = f.build(copy, 1);
        againFrom(f, copy, 0, "stop", 1);
        due.is("the builder has its bytes still", f.rebuilt(built), 0);
        againFrom(f, copy, 0, "", -20);
        due.is("and still", f.rebuilt(built), 0);
        againFrom(f, built, 1, "ac", 2);
        due.is("asking changes nothing", f.rebuilt(built), 2);
        due.is("not its bytes", f.code(built, 1, 0), 'b');
    }

    private static void toolBounds(LadderForge f) {
        int none = f.count(0);
        int[] wrong = {-1, none, 12, Integer.MIN_VALUE, Integer.MAX_VALUE};
        for (int tool : wrong) {
            due.is("rebuilt(" + tool + ")", f.rebuilt(tool), LadderForge.BAD);
            due.is("sealed(" + tool + ")", f.sealed(tool), LadderForge.BAD);
            due.is("settles(" + tool + ", 0)", f.settles(tool, 0), LadderForge.BAD);
            due.is("check(" + tool + ", 1)", f.check(tool, 1), LadderForge.BAD);
            due.is("chain(" + tool + ", -1)", f.chain(tool, -1), LadderForge.BAD);
            due.is("chain(" + tool + ", 0)", f.chain(tool, 0), LadderForge.BAD);
        }
    }

    private static void rebuiltRefused() {
        due.sentence("REBUILT. BAD (there is no such thing)");
        LadderForge f = new LadderForge();
        toolBounds(f);
        for (int i = 0; i < 12; i++) {
            Due.tool(f, 0, 2, 0);
        }
        toolBounds(f);
        due.is("the last one", f.rebuilt(11), 0);
    }

    private static void staleItself() {
        due.sentence("STALE are TOOLS that are not the same REBUILT");
        LadderForge f = new LadderForge();
        due.is("of none", f.stale(), 0);
        Due.tool(f, 0, 1);
        Due.named(f, 1, "in");
        due.is("neither", f.stale(), 0);
        Due.put(f, 0, "02");
        due.is("other bytes", f.stale(), 1);
        Due.put(f, 1, "in stop");
        due.is("longer", f.stale(), 3);
        Due.put(f, 0, "1");
        due.is("a FAULT", f.stale(), 3);
        Due.put(f, 0, "01 # anew");
        due.is("the same bytes", f.stale(), 2);
    }

    private static void staleByBuilder() {
        due.sentence("and all that are BUILT by one that is STALE");
        LadderForge f = new LadderForge();
        int copy = Due.named(f, 0, COPY);
        Due.put(f, 1, COPY_SIGNS);
        int second = f.build(copy, 1);
        int third = f.build(second, 1);
        Due.put(f, 2, "x");
        int last = f.build(third, 2);
        int other = Due.tool(f, 3, 0);
        Due.put(f, 2, "y");
        due.is("a builder is not STALE by what it built", f.stale(), 1 << last);
        Due.put(f, 2, "x");
        Due.put(f, 0, "in");
        due.is("all down to the last", f.stale(), 1 << copy | 1 << second | 1 << third | 1 << last);
        due.is("though the last is the same REBUILT", f.rebuilt(last), 0);
        Due.put(f, 0, COPY);
        due.is("none again", f.stale(), 0);
        Due.put(f, 3, "01");
        due.is("the other alone", f.stale(), 1 << other);
    }

    private static void staleOfTwelve() {
        due.sentence("STALE TOOLS, as bits (12 at most)");
        LadderForge f = new LadderForge();
        Due.named(f, 0, COPY);
        Due.put(f, 1, COPY_SIGNS);
        for (int i = 1; i < 11; i++) {
            due.is("built " + i, f.build(i - 1, 1), i);
        }
        Due.put(f, 2, "z");
        due.is("the twelfth", f.build(10, 2), 11);
        due.is("none", f.stale(), 0);
        Due.put(f, 2, "");
        due.is("the twelfth alone", f.stale(), 2048);
        Due.put(f, 1, "z");
        due.is("all but the first", f.stale(), 4094);
        Due.put(f, 1, COPY_SIGNS);
        Due.put(f, 2, "z");
        Due.put(f, 0, "");
        due.is("all twelve, by the first one", f.stale(), 4095);
    }

    /** 27 bytes that put themselves out, the last less 1, if it is not 0. */
    private static String selfWith(int last) {
        return "load C zero A plus 255 store C A: load 200 to get out load 200 plus 1 store 200 "
            + "plus 229 zero Z jump A Z: stop C: byte " + last;
    }

    private static void settlesAt() {
        due.sentence("the first build (1 ..) whose bytes are those of the one ahead (the TOOL itself ahead of the first)");
        for (int last = 0; last < 6; last++) {
            LadderForge f = new LadderForge();
            due.is("settles of " + last, f.settles(Due.named(f, 0, selfWith(last)), 7), last + 1);
        }
        LadderForge f = new LadderForge();
        int copy = Due.named(f, 0, COPY);
        Due.put(f, 1, COPY_SIGNS);
        due.is("itself", f.settles(copy, 1), 1);
        int set = Due.named(f, 0, COPY.replace("stop", "plus 0 stop"));
        due.is("by the second", f.settles(set, 1), 2);
    }

    private static void settlesNot() {
        due.sentence("and so on, 6 times at most .. NONE");
        for (int last = 6; last < 9; last++) {
            LadderForge f = new LadderForge();
            int tool = Due.named(f, 0, selfWith(last));
            due.is("settles of " + last, f.settles(tool, 7), LadderForge.NONE);
            due.is("makes no tool", f.count(0), 1);
            int next = f.build(tool, 7);
            due.is("from the next on", f.settles(next, 7), last == 6 ? 6 : LadderForge.NONE);
        }
        LadderForge f = new LadderForge();
        // puts itself out, the last byte as 1 less it: every second build is the same
        int turning = Due.named(f, 0, "set 1 sub C store C A: load 200 to get out load 200 plus 1 store 200 "
            + "plus 231 zero Z jump A Z: stop C: byte 0");
        due.is("there and back", f.settles(turning, 7), LadderForge.NONE);
    }

    private static void settlesHarm() {
        due.sentence("NONE (HARM, nothing put out, too)");
        LadderForge f = new LadderForge();
        int[][] tools = {{0}, {16}, {2, 11, 0}, {11, 0}};
        for (int[] bytes : tools) {
            due.is("at first", f.settles(Due.tool(f, 0, bytes), 7), LadderForge.NONE);
        }
        int copy = Due.named(f, 0, COPY);
        for (int[] bytes : tools) {
            Due.put(f, 1, Due.signs(bytes));
            due.is("behind the first", f.settles(copy, 1), LadderForge.NONE);
        }
        Due.put(f, 1, Due.signs(2, 16));
        due.is("HARM behind what came out", f.settles(copy, 1), LadderForge.NONE);
    }

    private static void settlesRefused() {
        due.sentence("SETTLES; NONE. BAD");
        LadderForge f = new LadderForge();
        Due.tool(f, 0, 0);
        due.is("settles(0, 7)", f.settles(0, 7), LadderForge.NONE);
        due.is("settles(0, 8)", f.settles(0, 8), LadderForge.BAD);
        due.is("settles(0, -1)", f.settles(0, -1), LadderForge.BAD);
        due.is("settles(1, 0)", f.settles(1, 0), LadderForge.BAD);
        due.is("settles(-1, 0)", f.settles(-1, 0), LadderForge.BAD);
        for (int far : FAR) {
            due.is("far", f.settles(0, far), LadderForge.BAD);
        }
    }

    private static void roundUnlike() {
        due.sentence("0, if both second ones are the same; else 1 and the first place at which they are unlike");
        LadderForge f = new LadderForge();
        int none = Due.named(f, 0, selfWith(0));
        int two = Due.named(f, 0, selfWith(2));
        int three = Due.named(f, 0, selfWith(3));
        due.is("0 and 2", f.round(none, two, 1), 0);
        due.is("2 and 0", f.round(two, none, 1), 0);
        due.is("0 and 3: the last byte", f.round(none, three, 1), 27);
        due.is("with itself", f.round(three, three, 1), 0);
        int copy = Due.named(f, 0, COPY);
        Due.put(f, 1, COPY_SIGNS);
        due.is("the first byte", f.round(copy, none, 1), 1);
        int more = Due.named(f, 0, COPY.replace("stop", "set 5 out stop"));
        // the second one of more is the text's bytes alone, for so are those that it built but for the 5
        due.is("the same by the second", f.round(copy, more, 1), 0);
        int put = Due.named(f, 0, "set 2 out set 2 out set 0 out stop");
        int less = Due.named(f, 0, "set 2 out set 0 out stop");
        due.is("one of both ends", f.round(put, less, 1), 2);
        due.is("the other ends", f.round(less, put, 1), 2);
        due.is("makes no tool", f.count(0), 7);
    }

    private static void roundState() {
        due.sentence("ROUND: .. STATE: HARM, or nothing");
        LadderForge f = new LadderForge();
        int self = Due.named(f, 0, selfWith(0));
        int[][] tools = {{0}, {16}, {2, 11, 0}, {11, 0}};
        for (int[] bytes : tools) {
            int tool = Due.tool(f, 0, bytes);
            due.is("the first one's first build", f.round(tool, self, 1), LadderForge.STATE);
            due.is("the other one's first build", f.round(self, tool, 1), LadderForge.STATE);
        }
        int copy = Due.named(f, 0, COPY);
        for (int[] bytes : tools) {
            Due.put(f, 2, Due.signs(bytes));
            due.is("the first one's second build", f.round(copy, self, 2), LadderForge.STATE);
            due.is("the other one's second build", f.round(self, copy, 2), LadderForge.STATE);
            due.is("both", f.round(copy, copy, 2), LadderForge.STATE);
        }
    }

    private static void pairBounds(LadderForge f, int none) {
        int[] wrong = {-1, none, 12, Integer.MIN_VALUE, Integer.MAX_VALUE};
        for (int tool : wrong) {
            due.is("round(" + tool + ", 0, 0)", f.round(tool, 0, 0), LadderForge.BAD);
            due.is("round(0, " + tool + ", 0)", f.round(0, tool, 0), LadderForge.BAD);
            due.is("hides(" + tool + ", 0, 0)", f.hides(tool, 0, 0), LadderForge.BAD);
            due.is("hides(0, " + tool + ", 0)", f.hides(0, tool, 0), LadderForge.BAD);
        }
        int[] texts = {-1, 8, Integer.MIN_VALUE, Integer.MAX_VALUE};
        for (int text : texts) {
            due.is("round(0, 0, " + text + ")", f.round(0, 0, text), LadderForge.BAD);
            due.is("hides(0, 0, " + text + ")", f.hides(0, 0, text), LadderForge.BAD);
        }
    }

    private static void roundRefused() {
        due.sentence("ROUND. BAD; STATE. HIDES: .. BAD; STATE: as ROUND (BAD ahead of STATE)");
        LadderForge f = new LadderForge();
        pairBounds(f, 0);
        Due.tool(f, 0, 0);
        pairBounds(f, 1);
        due.is("round(0, 0, 7)", f.round(0, 0, 7), LadderForge.STATE);
        due.is("hides(0, 0, 7)", f.hides(0, 0, 7), LadderForge.STATE);
    }

    private static void hidesBoth() {
        due.sentence("HIDES: a TOOL that builds itself from the TEXT, where ROUND with the other one is not 0");
        LadderForge f = new LadderForge();
        int trap = Due.named(f, 0, selfWith(0));
        int soon = Due.named(f, 0, selfWith(2));
        int later = Due.named(f, 0, selfWith(3));
        int copy = Due.named(f, 0, COPY);
        Due.put(f, 1, COPY_SIGNS);
        due.is("builds itself, unlike at the first byte", f.hides(trap, copy, 1), 1);
        due.is("builds itself, unlike at the last byte", f.hides(trap, later, 1), 1);
        due.is("builds itself, ROUND is 0", f.hides(trap, soon, 1), 0);
        due.is("with itself", f.hides(trap, trap, 1), 0);
        due.is("does not build itself, ROUND is not 0", f.hides(later, trap, 1), 0);
        due.is("does not build itself, ROUND is 0", f.hides(soon, trap, 1), 0);
        due.is("the other one builds itself, too", f.hides(copy, trap, 1), 1);
        int more = Due.named(f, 0, COPY.replace("stop", "set 5 out stop"));
        due.is("unlike at the first byte", f.round(more, trap, 1), 1);
        due.is("but it does not build itself", f.hides(more, trap, 1), 0);
        due.is("makes no tool", f.count(0), 5);
    }

    private static void hidesState() {
        due.sentence("HIDES: whether it does .. STATE: as ROUND");
        LadderForge f = new LadderForge();
        int trap = Due.named(f, 0, selfWith(0));
        int[][] tools = {{0}, {16}, {2, 11, 0}, {11, 0}};
        for (int[] bytes : tools) {
            int tool = Due.tool(f, 0, bytes);
            due.is("of the first one", f.hides(tool, trap, 1), LadderForge.STATE);
            due.is("of the other one", f.hides(trap, tool, 1), LadderForge.STATE);
        }
        int copy = Due.named(f, 0, COPY);
        for (int[] bytes : tools) {
            Due.put(f, 2, Due.signs(bytes));
            due.is("of the first one's second", f.hides(copy, trap, 2), LadderForge.STATE);
            due.is("of the other one's second", f.hides(trap, copy, 2), LadderForge.STATE);
        }
    }

    private static void checkedByPairs() {
        due.sentence("A TOOL by PAIRS is CHECKED (is = 1), or not (0): what it was");
        LadderForge f = new LadderForge();
        Due.tool(f, 0, 2, 0);
        due.is("not at first", f.tool(0, 4), 0);
        due.is("not, as it was", f.check(0, 0), 0);
        due.is("to be", f.check(0, 1), 0);
        due.is("and again", f.check(0, 1), 1);
        due.is("one", f.count(3), 1);
        due.is("not to be", f.check(0, 0), 1);
        due.is("none", f.count(3), 0);
        f.check(0, 1);
        Due.put(f, 0, "");
        due.is("it stays CHECKED when it is STALE", f.tool(0, 4), 1);
        due.is("and can be changed", f.check(0, 0), 1);
    }

    private static void checkRefused() {
        due.sentence("check .. BAD; STATE: it is not by PAIRS");
        LadderForge f = new LadderForge();
        int pairs = Due.tool(f, 0, 2, 0);
        int named = Due.named(f, 1, "out stop");
        int built = f.build(pairs, 2);
        int[] wrong = {-1, 2, Integer.MIN_VALUE, Integer.MAX_VALUE};
        for (int is : wrong) {
            due.is("is " + is, f.check(pairs, is), LadderForge.BAD);
            due.is("BAD ahead of STATE, NAMED", f.check(named, is), LadderForge.BAD);
            due.is("BAD ahead of STATE, BUILT", f.check(built, is), LadderForge.BAD);
        }
        for (int is = 0; is < 2; is++) {
            due.is("by NAMED", f.check(named, is), LadderForge.STATE);
            due.is("BUILT", f.check(built, is), LadderForge.STATE);
        }
        due.is("none is CHECKED", f.count(3), 0);
    }

    /** Tool 0 by PAIRS copies; each next one is BUILT by the one ahead and copies. */
    private static LadderForge copies(int tools) {
        LadderForge f = new LadderForge();
        Due.tool(f, 0, 1, 13, 6, 2, 11, 0, 0);
        Due.put(f, 1, COPY_SIGNS);
        for (int i = 1; i < tools; i++) {
            due.is("built " + i, f.build(i - 1, 1), i);
        }
        return f;
    }

    private static void chainLengths() {
        due.sentence("CHAIN of a TOOL: it, its builder, and so on up to one that was not BUILT");
        LadderForge f = copies(12);
        for (int tool = 0; tool < 12; tool++) {
            due.is("how long, " + tool, f.chain(tool, -1), tool + 1);
            for (int k = 0; k <= tool; k++) {
                due.is("chain(" + tool + ", " + k + ")", f.chain(tool, k), tool - k);
            }
            due.is("chain(" + tool + ", " + (tool + 1) + ")", f.chain(tool, tool + 1), LadderForge.BAD);
        }
    }

    private static void chainRefused() {
        due.sentence("CHAIN: how long (k = -1), the k-th from the TOOL itself on. BAD");
        LadderForge f = copies(2);
        int[] wrong = {-2, 2, 12, Integer.MIN_VALUE, Integer.MAX_VALUE};
        for (int k : wrong) {
            due.is("chain(1, " + k + ")", f.chain(1, k), LadderForge.BAD);
        }
        due.is("chain(0, 1)", f.chain(0, 1), LadderForge.BAD);
        due.is("chain(2, -1)", f.chain(2, -1), LadderForge.BAD);
    }

    private static void sealedChain() {
        due.sentence("SEALED is a TOOL, if none of its CHAIN is STALE, and the last is CHECKED");
        LadderForge f = copies(11);
        Due.put(f, 2, "x");
        f.build(10, 2);
        due.is("the last is not CHECKED", f.sealed(11), 0);
        f.check(0, 1);
        due.is("the longest CHAIN", f.sealed(11), 1);
        due.is("one alone", f.sealed(0), 1);
        due.is("all", f.count(4), 12);
        Due.put(f, 2, "y");
        due.is("itself is STALE", f.sealed(11), 0);
        due.is("its builder is not", f.sealed(10), 1);
        due.is("all but it", f.count(4), 11);
        Due.put(f, 2, "x");
        Due.put(f, 1, "x");
        due.is("one between is STALE", f.sealed(11), 0);
        due.is("the last one is not", f.sealed(0), 1);
        due.is("one alone is left", f.count(4), 1);
        Due.put(f, 1, COPY_SIGNS);
        Due.put(f, 0, "00");
        due.is("the last is STALE", f.count(4), 0);
        due.is("though CHECKED", f.count(3), 1);
    }

    private static void sealedRefused() {
        due.sentence("Whether a TOOL is SEALED. BAD");
        LadderForge f = new LadderForge();
        due.is("none is there", f.sealed(0), LadderForge.BAD);
        int named = Due.named(f, 0, COPY);
        Due.put(f, 1, "x");
        int built = f.build(named, 1);
        due.is("by NAMED never", f.sealed(named), 0);
        due.is("nor what it builds", f.sealed(built), 0);
        due.is("behind the last", f.sealed(2), LadderForge.BAD);
        due.is("ahead of the first", f.sealed(-1), LadderForge.BAD);
    }

    /** 0 by PAIRS, 1 BUILT by 0; 2 by NAMED, 3 BUILT by 2; 4 by PAIRS, 5 BUILT by 4, 6 by 5. */
    private static LadderForge families() {
        LadderForge f = new LadderForge();
        Due.put(f, 1, COPY_SIGNS);
        Due.put(f, 3, "x");
        Due.tool(f, 0, 1, 13, 6, 2, 11, 0, 0);
        f.build(0, 3);
        Due.named(f, 2, COPY);
        f.build(2, 3);
        Due.tool(f, 4, 1, 13, 6, 2, 11, 0, 0);
        f.build(4, 1);
        f.build(5, 3);
        return f;
    }

    private static void leastOfSet() {
        due.sentence("LEAST of a set (bits) of TOOLS: the fewest TOOLS by PAIRS to be CHECKED more so that all of the set are SEALED");
        LadderForge f = families();
        due.is("of none", f.least(0), 0);
        due.is("of all", f.least(127), 1 | 16);
        int[] want = {1, 1, 0, 0, 16, 16, 16};
        for (int tool = 0; tool < 7; tool++) {
            due.is("of " + tool, f.least(1 << tool), want[tool]);
        }
        f.check(4, 1);
        due.is("more than are CHECKED", f.least(127), 1);
        f.check(0, 1);
        due.is("no more", f.least(127), 0);
        due.is("asking checks none", f.count(3), 2);
    }

    private static void leastLeavesOut() {
        due.sentence("that are not STALE and whose CHAIN does not end at one by NAMED");
        LadderForge f = families();
        due.is("by NAMED, and what is BUILT by it", f.least(12), 0);
        Due.put(f, 1, "x");
        due.is("5 is STALE, so is 6", f.least(96), 0);
        due.is("4 is not", f.least(112), 16);
        Due.put(f, 1, COPY_SIGNS);
        Due.put(f, 3, "y");
        due.is("1 and 6 are STALE", f.least(66), 0);
        due.is("0 and 5 are not", f.least(99), 17);
        Due.put(f, 0, "");
        due.is("0 is STALE", f.least(1), 0);
    }

    private static void leastBitsBeyond() {
        due.sentence("least .. BAD: bits beyond");
        LadderForge f = new LadderForge();
        due.is("of no tools", f.least(1), LadderForge.BAD);
        for (int tools = 1; tools <= 12; tools++) {
            Due.tool(f, 0, 0);
            due.is("all of " + tools, f.least((1 << tools) - 1), (1 << tools) - 1);
            due.is("one beyond " + tools, f.least(1 << tools), LadderForge.BAD);
            due.is("one beyond, too, " + tools, f.least((1 << tools) + 1), LadderForge.BAD);
        }
        due.is("far beyond", f.least(1 << 30), LadderForge.BAD);
        due.is("all bits", f.least(-1), LadderForge.BAD);
        due.is("the highest bit", f.least(Integer.MIN_VALUE), LadderForge.BAD);
        due.is("all but that", f.least(Integer.MAX_VALUE), LadderForge.BAD);
    }

    private static void sameUnlike() {
        due.sentence("Whether two TOOLS have the same bytes: 0, else 1 and the first place (or one of both ends)");
        LadderForge f = new LadderForge();
        Due.tool(f, 0, 1, 2, 3);
        Due.named(f, 0, "in out byte 3");
        Due.tool(f, 0, 9, 2, 3);
        Due.tool(f, 0, 1, 2, 9);
        Due.tool(f, 0, 1, 2);
        Due.tool(f, 0, 1);
        int[][] want = {{0, 0, 1, 3, 3, 2}, {0, 0, 1, 3, 3, 2}, {1, 1, 0, 1, 1, 1}, {3, 3, 1, 0, 3, 2},
            {3, 3, 1, 3, 0, 2}, {2, 2, 1, 2, 2, 0}};
        for (int a = 0; a < 6; a++) {
            for (int b = 0; b < 6; b++) {
                due.is("same(" + a + ", " + b + ")", f.same(a, b), want[a][b]);
            }
        }
        LadderForge g = new LadderForge();
        int counts = Due.named(g, 0, "L: load C out plus 1 store C zero Z jump L Z: stop C: byte 0");
        int whole = g.build(counts, 7);
        int less = g.build(Due.named(g, 0, "L: load C out plus 1 store C sub D zero Z jump L Z: stop C: byte 0 D: byte 255"), 7);
        due.is("255 bytes", g.tool(less, 0), 255);
        due.is("256 and 255", g.same(whole, less), 256);
        due.is("255 and 256", g.same(less, whole), 256);
    }

    private static void sameRefused() {
        due.sentence("same .. BAD");
        LadderForge f = new LadderForge();
        due.is("none is there", f.same(0, 0), LadderForge.BAD);
        Due.tool(f, 0, 0);
        int[] wrong = {-1, 1, 12, Integer.MIN_VALUE, Integer.MAX_VALUE};
        for (int tool : wrong) {
            due.is("same(0, " + tool + ")", f.same(0, tool), LadderForge.BAD);
            due.is("same(" + tool + ", 0)", f.same(tool, 0), LadderForge.BAD);
            due.is("same(" + tool + ", " + tool + ")", f.same(tool, tool), LadderForge.BAD);
        }
    }
}
