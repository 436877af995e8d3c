/** Promises 14 to 23: rebuilt, stale, settles, round, hides, check, chain, sealed, least, same. */
public final class WaysRoundTest {
    private static final Due due = new Due();
    private static final String COPY = "L: in end Z out jump L Z: stop";
    /** 25 bytes that put themselves out, the last as 1 less it: every second build is the same. */
    private static final String TURNING = "set 1 sub C store C A: load 200 to get out "
        + "load 200 plus 1 store 200 plus 231 zero Z jump A Z: stop C: byte 0";

    public static void main(String[] args) {
        rebuiltFromText();
        rebuiltByBuilder();
        rebuiltWithHarm();
        stale();
        settles();
        round();
        roundState();
        hides();
        check();
        chain();
        sealed();
        least();
        same();
        due.end();
    }

    private static void rebuiltFromText() {
        LadderForge f = new LadderForge();
        int pairs = Due.tool(f, 0, 1, 2, 3);
        int named = Due.named(f, 1, "in out set 9 stop");
        due.is("pairs as they were", f.rebuilt(pairs), 0);
        due.is("names as they were", f.rebuilt(named), 0);
        String[] texts = {"01 #\n0203", "010204", "ff0203", "0102", "01020304", "01020", "", "in"};
        int[] want = {0, 3, 1, 3, 4, -20, -20, -20};
        for (int i = 0; i < texts.length; i++) {
            Due.put(f, 0, texts[i]);
            due.is("rebuilt from '" + texts[i] + "'", f.rebuilt(pairs), want[i]);
        }
        String[] names = {"byte 1 byte 2 byte 3 byte 9 byte 0", "in out set 8 stop", "in out set 9",
            "in out set 9 stop in", "to", "in out set B stop", "in out set", "0102"};
        int[] due2 = {0, 4, 5, 6, 1, -20, -20, -20};
        for (int i = 0; i < names.length; i++) {
            Due.put(f, 1, names[i]);
            due.is("rebuilt from '" + names[i] + "'", f.rebuilt(named), due2[i]);
        }
        due.is("the tool itself stays", f.code(named, 3, 0), 9);
        due.is("rebuilt(2)", f.rebuilt(2), LadderForge.BAD);
        due.is("rebuilt(-1)", f.rebuilt(-1), LadderForge.BAD);
    }

    private static void rebuiltByBuilder() {
        LadderForge f = new LadderForge();
        int copy = Due.named(f, 0, COPY);
        Due.put(f, 1, "abc");
        int built = f.build(copy, 1);
        String[] texts = {"abc", "abd", "ab", "abcd", "bbc", ""};
        int[] want = {0, 3, 3, 4, 1, -20};
        for (int i = 0; i < texts.length; i++) {
            Due.put(f, 1, texts[i]);
            due.is("rebuilt from '" + texts[i] + "'", f.rebuilt(built), want[i]);
        }
        Due.put(f, 1, "abc");
        Due.put(f, 0, "stop");
        due.is("its builder as it is, not as its text is now", f.rebuilt(built), 0);
    }

    private static void rebuiltWithHarm() {
        LadderForge f = new LadderForge();
        int one = Due.named(f, 0, "in out minus H zero L stop L: jump L H: byte 16");
        int two = Due.named(f, 1, "in out L: zero Z out jump L Z: stop");
        Due.put(f, 2, "a");
        int byOne = f.build(one, 2);
        Due.put(f, 3, "" + (char) 0);
        int byTwo = f.build(two, 3);
        Due.put(f, 2, "" + (char) 128);
        due.is("HARM 1", f.rebuilt(byOne), -11);
        Due.put(f, 2, "");
        due.is("HARM 3", f.rebuilt(byOne), -13);
        Due.put(f, 3, "a");
        due.is("HARM 2", f.rebuilt(byTwo), -12);
        due.is("all of HARM are stale", f.stale(), 1 << byOne | 1 << byTwo);
    }

    private static void stale() {
        LadderForge f = new LadderForge();
        Due.named(f, 0, COPY);
        Due.put(f, 1, "" + (char) 1 + (char) 13 + (char) 6 + (char) 2 + (char) 11 + (char) 0 + (char) 0);
        due.is("1", f.build(0, 1), 1);
        due.is("2", f.build(1, 1), 2);
        Due.put(f, 2, "xy");
        due.is("3", f.build(2, 2), 3);
        due.is("4", Due.tool(f, 3, 0), 4);
        due.is("nothing is stale", f.stale(), 0);
        Due.put(f, 2, "xz");
        due.is("the last is stale", f.stale(), 8);
        Due.put(f, 2, "xy");
        due.is("as it was", f.stale(), 0);
        Due.put(f, 0, "# anew\n" + COPY);
        due.is("the same bytes", f.stale(), 0);
        Due.put(f, 0, "stop");
        due.is("all that come of the first", f.stale(), 15);
        due.is("though itself the same", f.rebuilt(3), 0);
        Due.put(f, 0, "set");
        due.is("a fault is stale", f.stale(), 15);
        Due.put(f, 3, "01");
        due.is("and the other", f.stale(), 31);
    }

    /** 27 bytes that put themselves out, the last less 1, if it is not 0. */
    private static String selfWith(int last) {
        return "load C zero A plus 255 store C A: load 200 to get out load 200 plus 1 store 200 "
            + "plus 229 zero Z jump A Z: stop C: byte " + last;
    }

    private static void settles() {
        for (int last = 0; last <= 8; last++) {
            LadderForge f = new LadderForge();
            int tool = Due.named(f, 0, selfWith(last));
            due.is("settles of " + last, f.settles(tool, 7), last < 6 ? last + 1 : LadderForge.NONE);
            due.is("and makes no tool", f.count(0), 1);
        }
        LadderForge f = new LadderForge();
        due.is("turns to the end", f.settles(Due.named(f, 0, TURNING), 7), LadderForge.NONE);
        f = new LadderForge();
        int copy = Due.named(f, 0, COPY);
        Due.put(f, 1, "" + (char) 2 + (char) 16);
        due.is("HARM behind the first", f.settles(copy, 1), LadderForge.NONE);
        Due.put(f, 1, "" + (char) 0);
        due.is("nothing behind the first", f.settles(copy, 1), LadderForge.NONE);
        Due.put(f, 1, "");
        due.is("nothing at first", f.settles(copy, 1), LadderForge.NONE);
        due.is("settles(1, 0)", f.settles(1, 0), LadderForge.BAD);
        due.is("settles(-1, 0)", f.settles(-1, 0), LadderForge.BAD);
        due.is("settles(0, 8)", f.settles(0, 8), LadderForge.BAD);
        due.is("settles(0, -1)", f.settles(0, -1), LadderForge.BAD);
    }

    private static void round() {
        LadderForge f = new LadderForge();
        int none = Due.named(f, 0, selfWith(0));
        int two = Due.named(f, 0, selfWith(2));
        int three = Due.named(f, 0, selfWith(3));
        int five = Due.named(f, 0, selfWith(5));
        due.is("both second ones are the same", f.round(none, two, 1), 0);
        due.is("they are unlike at the last", f.round(none, three, 1), 27);
        due.is("the other way round", f.round(three, none, 1), 27);
        due.is("3 and 5", f.round(three, five, 1), 27);
        due.is("with itself", f.round(five, five, 1), 0);
        due.is("makes no tool", f.count(0), 4);
        due.is("round(4, 0, 0)", f.round(4, 0, 0), LadderForge.BAD);
        due.is("round(0, 4, 0)", f.round(0, 4, 0), LadderForge.BAD);
        due.is("round(-1, 0, 0)", f.round(-1, 0, 0), LadderForge.BAD);
        due.is("round(0, -1, 0)", f.round(0, -1, 0), LadderForge.BAD);
        due.is("round(0, 0, 8)", f.round(0, 0, 8), LadderForge.BAD);
        due.is("round(0, 0, -1)", f.round(0, 0, -1), LadderForge.BAD);
    }

    private static void roundState() {
        LadderForge f = new LadderForge();
        int self = Due.named(f, 0, selfWith(0));
        int silent = Due.named(f, 0, "stop");
        int harm = Due.tool(f, 0, 16);
        // what these build does HARM, or puts nothing out
        int thenHarm = Due.named(f, 0, "set 16 out stop");
        int thenSilent = Due.named(f, 0, "set 0 out stop");
        int[] all = {silent, harm, thenHarm, thenSilent};
        for (int tool : all) {
            due.is("round(" + tool + ", self)", f.round(tool, self, 1), LadderForge.STATE);
            due.is("round(self, " + tool + ")", f.round(self, tool, 1), LadderForge.STATE);
            due.is("hides(" + tool + ", self)", f.hides(tool, self, 1), LadderForge.STATE);
            due.is("hides(self, " + tool + ")", f.hides(self, tool, 1), LadderForge.STATE);
        }
    }

    private static void hides() {
        LadderForge f = new LadderForge();
        int trap = Due.named(f, 0, selfWith(0));
        int copy = Due.named(f, 1, COPY);
        int later = Due.named(f, 2, selfWith(3));
        int soon = Due.named(f, 2, selfWith(1));
        Due.put(f, 3, "" + (char) 1 + (char) 13 + (char) 6 + (char) 2 + (char) 11 + (char) 0 + (char) 0);
        due.is("unlike at once", f.round(trap, copy, 3), 1);
        due.is("the trap hides", f.hides(trap, copy, 3), 1);
        due.is("copy builds itself too, and the round is not 0", f.hides(copy, trap, 3), 1);
        due.is("one that builds another does not", f.hides(later, trap, 3), 0);
        due.is("but the trap does", f.hides(trap, later, 3), 1);
        due.is("the round is 0", f.hides(trap, soon, 3), 0);
        due.is("with itself", f.hides(trap, trap, 3), 0);
        int turning = Due.named(f, 2, TURNING);
        due.is("its second build is itself", f.round(turning, turning, 3), 0);
        due.is("unlike at the first byte", f.round(turning, trap, 3), 1);
        due.is("but its first is not itself", f.hides(turning, trap, 3), 0);
        due.is("hides(5, 0, 0)", f.hides(5, 0, 0), LadderForge.BAD);
        due.is("hides(0, 5, 0)", f.hides(0, 5, 0), LadderForge.BAD);
        due.is("hides(0, 0, 8)", f.hides(0, 0, 8), LadderForge.BAD);
        due.is("hides(0, 0, -1)", f.hides(0, 0, -1), LadderForge.BAD);
        due.is("makes no tool", f.count(0), 5);
    }

    private static void check() {
        LadderForge f = new LadderForge();
        int pairs = Due.tool(f, 0, 2, 0);
        int named = Due.named(f, 1, "out stop");
        int built = f.build(pairs, 2);
        due.is("check", f.check(pairs, 1), 0);
        due.is("check again", f.check(pairs, 1), 1);
        due.is("count", f.count(3), 1);
        due.is("check(.., 2)", f.check(pairs, 2), LadderForge.BAD);
        due.is("check(.., -1)", f.check(pairs, -1), LadderForge.BAD);
        due.is("refused, it stays", f.tool(pairs, 4), 1);
        due.is("uncheck", f.check(pairs, 0), 1);
        due.is("uncheck again", f.check(pairs, 0), 0);
        due.is("it is not", f.tool(pairs, 4), 0);
        due.is("by NAMED", f.check(named, 1), LadderForge.STATE);
        due.is("BUILT", f.check(built, 0), LadderForge.STATE);
        due.is("BAD ahead of STATE", f.check(named, 2), LadderForge.BAD);
        due.is("check(3, 1)", f.check(3, 1), LadderForge.BAD);
        due.is("check(-1, 1)", f.check(-1, 1), LadderForge.BAD);
        due.is("none is checked", f.count(3), 0);
    }

    private static void chain() {
        LadderForge f = new LadderForge();
        int start = Due.named(f, 0, selfWith(9));
        Due.tool(f, 1, 0);
        int at = start;
        for (int i = 2; i < 12; i++) {
            at = f.build(at, 2);
            due.is("built " + i, at, i);
        }
        due.is("length", f.chain(11, -1), 11);
        for (int k = 0; k < 10; k++) {
            due.is("chain(11, " + k + ")", f.chain(11, k), 11 - k);
        }
        due.is("the last", f.chain(11, 10), start);
        due.is("behind the last", f.chain(11, 11), LadderForge.BAD);
        due.is("far behind", f.chain(11, Integer.MAX_VALUE), LadderForge.BAD);
        due.is("chain(11, -2)", f.chain(11, -2), LadderForge.BAD);
        due.is("alone", f.chain(1, -1), 1);
        due.is("itself", f.chain(1, 0), 1);
        due.is("chain(1, 1)", f.chain(1, 1), LadderForge.BAD);
        due.is("chain(12, -1)", f.chain(12, -1), LadderForge.BAD);
        due.is("chain(-1, -1)", f.chain(-1, -1), LadderForge.BAD);
    }

    /** 0 copies, by PAIRS; 1 is BUILT by 0, 2 by 1; 3 by NAMED, 4 BUILT by 3; 5 by PAIRS, alone. */
    private static LadderForge family() {
        LadderForge f = new LadderForge();
        Due.tool(f, 0, 1, 13, 6, 2, 11, 0, 0);
        Due.put(f, 1, "" + (char) 1 + (char) 13 + (char) 6 + (char) 2 + (char) 11 + (char) 0 + (char) 0);
        f.build(0, 1);
        Due.put(f, 2, "two");
        f.build(1, 2);
        Due.named(f, 3, COPY);
        f.build(3, 2);
        Due.tool(f, 5, 0);
        return f;
    }

    private static int sealedBits(LadderForge f) {
        int bits = 0;
        for (int i = 0; i < f.count(0); i++) {
            bits |= f.sealed(i) << i;
        }
        due.is("count(4)", f.count(4), Integer.bitCount(bits));
        return bits;
    }

    private static void sealed() {
        LadderForge f = family();
        due.is("none is sealed", sealedBits(f), 0);
        f.check(0, 1);
        due.is("all that come of 0", sealedBits(f), 7);
        f.check(5, 1);
        due.is("and 5", sealedBits(f), 39);
        Due.put(f, 1, "x");
        due.is("1 is stale, so 2 is not sealed", sealedBits(f), 33);
        Due.put(f, 5, "0");
        due.is("a fault in 5", sealedBits(f), 1);
        Due.put(f, 0, "00");
        due.is("the first is stale", sealedBits(f), 0);
        due.is("sealed(6)", f.sealed(6), LadderForge.BAD);
        due.is("sealed(-1)", f.sealed(-1), LadderForge.BAD);
        due.is("checked ones stay so", f.count(3), 2);
    }

    private static void least() {
        LadderForge f = family();
        due.is("all", f.least(63), 33);
        due.is("none", f.least(0), 0);
        due.is("the first itself", f.least(1), 1);
        due.is("the last of a chain", f.least(4), 1);
        due.is("those by NAMED", f.least(24), 0);
        due.is("5", f.least(32), 32);
        f.check(0, 1);
        due.is("0 is checked", f.least(63), 32);
        f.check(0, 0);
        Due.put(f, 2, "x");
        due.is("2 is stale", f.least(4), 0);
        due.is("1 is not", f.least(6), 1);
        Due.put(f, 0, "00");
        due.is("0 is stale", f.least(63), 32);
        due.is("bits beyond", f.least(64), LadderForge.BAD);
        due.is("bits beyond, too", f.least(65), LadderForge.BAD);
        due.is("least(-1)", f.least(-1), LadderForge.BAD);
        due.is("the highest bit", f.least(Integer.MIN_VALUE), LadderForge.BAD);
    }

    private static void same() {
        LadderForge f = new LadderForge();
        Due.tool(f, 0, 1, 2, 3);
        Due.named(f, 0, "in out set 4");
        Due.named(f, 0, "in out byte 3");
        Due.tool(f, 0, 1, 2);
        Due.tool(f, 0, 9);
        due.is("another end", f.same(0, 1), 4);
        due.is("another end, turned", f.same(1, 0), 4);
        due.is("the same", f.same(0, 2), 0);
        due.is("itself", f.same(1, 1), 0);
        due.is("unlike at the last", f.same(1, 3), 3);
        due.is("unlike at the first", f.same(4, 3), 1);
        due.is("same(0, 5)", f.same(0, 5), LadderForge.BAD);
        due.is("same(5, 0)", f.same(5, 0), LadderForge.BAD);
        due.is("same(-1, 0)", f.same(-1, 0), LadderForge.BAD);
        due.is("same(0, -1)", f.same(0, -1), LadderForge.BAD);
    }
}
