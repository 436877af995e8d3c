/** Part 4 of the document, promises 24 to 29: each sentence with a boundary, one method each. */
public final class EdgesLaddersTest {
    private static final Due due = new Due();

    public static void main(String[] args) {
        editionWords();
        twelveEditions();
        knowsAllWords();
        fewestBuilds();
        longestLadder();
        toItself();
        noLadder();
        firstByNumbers();
        ladderRefused();
        neededWord();
        neededLeast();
        neededNone();
        neededRefused();
        weightOfTool();
        weightOfPaired();
        weightOfNamed();
        weightOfBuilt();
        weightOfSealed();
        weightOfDoubted();
        weightRefused();
        counts();
        countRefused();
        traced();
        tracedByWeightAlone();
        due.end();
    }

    private static void editionWords() {
        due.sentence("An EDITION: its number. BAD: words 0 .. 65535 (bits 0 .. 15 each)");
        LadderForge f = new LadderForge();
        int[] wrong = {-1, 65536, 65537, Integer.MIN_VALUE, Integer.MAX_VALUE};
        for (int words : wrong) {
            due.is("uses " + words, f.edition(words, 0), LadderForge.BAD);
            due.is("knows " + words, f.edition(0, words), LadderForge.BAD);
            due.is("both " + words, f.edition(words, words), LadderForge.BAD);
        }
        due.is("none is there", f.count(1), 0);
        due.is("none of the words", f.edition(0, 0), 0);
        due.is("all of them", f.edition(65535, 65535), 1);
        due.is("all used", f.edition(65535, 0), 2);
        due.is("all known", f.edition(0, 65535), 3);
    }

    private static void twelveEditions() {
        due.sentence("EDITIONS (12 at most) .. FULL");
        LadderForge f = new LadderForge();
        for (int i = 0; i < 12; i++) {
            due.is("BAD takes no number", f.edition(65536, 0), LadderForge.BAD);
            due.is("edition " + i, f.edition(0, 1), i);
            due.is("how many", f.count(1), i + 1);
        }
        due.is("a 13th", f.edition(0, 0), LadderForge.FULL);
        due.is("BAD ahead of FULL", f.edition(0, 65536), LadderForge.BAD);
        due.is("BAD ahead of FULL, too", f.edition(-1, 0), LadderForge.BAD);
        due.is("12 are there", f.count(1), 12);
        due.is("the last one", f.ladder(0, 11, -1), 1);
        due.is("no edition 12", f.ladder(0, 12, -1), LadderForge.BAD);
        due.is("tools have their own room", Due.tool(f, 0, 0), 0);
    }

    private static void builds(int knows, int uses, boolean is) {
        LadderForge f = new LadderForge();
        f.edition(0, knows);
        f.edition(uses, 0);
        due.is("knows " + knows + ", uses " + uses, f.ladder(0, 1, -1), is ? 1 : LadderForge.NONE);
    }

    private static void knowsAllWords() {
        due.sentence("One builds another one, if it knows all words that the other uses");
        builds(0, 0, true);
        builds(65535, 0, true);
        builds(65535, 65535, true);
        builds(0, 65535, false);
        for (int word = 0; word < 16; word++) {
            builds(1 << word, 1 << word, true);
            builds(65535 ^ 1 << word, 1 << word, false);
            builds(65535 ^ 1 << word, 65535, false);
            builds(0, 1 << word, false);
            builds(1 << word, 1 << word | 1 << (word + 1) % 16, false);
        }
    }

    /** Each edition builds the next one alone: uses word i, knows word i + 1. */
    private static LadderForge row(int editions) {
        LadderForge f = new LadderForge();
        for (int i = 0; i < editions; i++) {
            f.edition(1 << i, 1 << i + 1);
        }
        return f;
    }

    private static void fewestBuilds() {
        due.sentence("LADDER from one to another: the fewest builds");
        LadderForge f = row(5);
        due.is("four", f.ladder(0, 4, -1), 4);
        // builds 4 as well, and is built by 1
        f.edition(1 << 2, 1 << 4);
        due.is("three", f.ladder(0, 4, -1), 3);
        int[] want = {0, 1, 5, 4, LadderForge.NONE};
        for (int k = 0; k < want.length; k++) {
            due.is("step " + k, f.ladder(0, 4, k), want[k]);
        }
        due.is("one", f.ladder(5, 4, -1), 1);
        // knows all, but is built by none of the others
        f.edition(1 << 15, 65535);
        due.is("still three", f.ladder(0, 4, -1), 3);
        due.is("but one from it", f.ladder(6, 4, -1), 1);
    }

    private static void longestLadder() {
        due.sentence("LADDER .. the fewest builds (EDITIONS, 12 at most)");
        LadderForge f = row(12);
        due.is("eleven", f.ladder(0, 11, -1), 11);
        for (int k = 0; k < 12; k++) {
            due.is("step " + k, f.ladder(0, 11, k), k);
        }
        due.is("no step 12", f.ladder(0, 11, 12), LadderForge.NONE);
        due.is("ten", f.ladder(1, 11, -1), 10);
    }

    private static void toItself() {
        due.sentence("how many builds (k = -1; 0 to itself), the k-th EDITION (0: the first one itself)");
        LadderForge f = row(12);
        for (int i = 0; i < 12; i += 11) {
            due.is("builds", f.ladder(i, i, -1), 0);
            due.is("itself", f.ladder(i, i, 0), i);
            due.is("no step 1", f.ladder(i, i, 1), LadderForge.NONE);
        }
        LadderForge g = new LadderForge();
        g.edition(1, 0);
        due.is("though it can't build itself", g.ladder(0, 0, -1), 0);
    }

    private static void noLadder() {
        due.sentence("NONE: there is none, or no such step");
        LadderForge f = row(3);
        due.is("not back", f.ladder(2, 0, -1), LadderForge.NONE);
        due.is("so no first one", f.ladder(2, 0, 0), LadderForge.NONE);
        due.is("and no step", f.ladder(2, 0, 1), LadderForge.NONE);
        int[] steps = {3, 4, 12, Integer.MAX_VALUE};
        for (int k : steps) {
            due.is("step " + k, f.ladder(0, 2, k), LadderForge.NONE);
        }
        due.is("the last step", f.ladder(0, 2, 2), 2);
    }

    private static void firstByNumbers() {
        due.sentence("its steps: the first by numbers of those with the fewest");
        LadderForge f = new LadderForge();
        // 5 to 0: by 1 and then 4 or 6, or by 2 and then 3
        f.edition(8, 0);
        f.edition(1, 2);
        f.edition(1, 4);
        f.edition(4, 8);
        f.edition(2, 8);
        f.edition(0, 1);
        f.edition(2, 8);
        int[] want = {5, 1, 4, 0};
        due.is("three builds", f.ladder(5, 0, -1), 3);
        for (int k = 0; k < want.length; k++) {
            due.is("step " + k, f.ladder(5, 0, k), want[k]);
        }
        LadderForge g = new LadderForge();
        // 0 to 3: 1 is less than 2, but leads on to nothing
        g.edition(16, 1);
        g.edition(1, 0);
        g.edition(1, 2);
        g.edition(2, 0);
        due.is("not by 1", g.ladder(0, 3, 1), 2);
    }

    private static void ladderBounds(LadderForge f, int none) {
        int[] wrong = {-1, none, 12, Integer.MIN_VALUE, Integer.MAX_VALUE};
        for (int edition : wrong) {
            due.is("ladder(" + edition + ", 0, -1)", f.ladder(edition, 0, -1), LadderForge.BAD);
            due.is("ladder(0, " + edition + ", -1)", f.ladder(0, edition, -1), LadderForge.BAD);
            due.is("ladder of both", f.ladder(edition, edition, 0), LadderForge.BAD);
            due.is("needed(" + edition + ", 0, 0)", f.needed(edition, 0, 0), LadderForge.BAD);
            due.is("needed(0, " + edition + ", 1)", f.needed(0, edition, 1), LadderForge.BAD);
        }
    }

    private static void ladderRefused() {
        due.sentence("ladder .. BAD (a number is not as told, or there is no such thing)");
        ladderBounds(new LadderForge(), 0);
        ladderBounds(row(1), 1);
        ladderBounds(row(12), 12);
        LadderForge f = row(2);
        due.is("k -2", f.ladder(0, 1, -2), LadderForge.BAD);
        due.is("k -2 where there is none", f.ladder(1, 0, -2), LadderForge.BAD);
        due.is("k -2 to itself", f.ladder(0, 0, -2), LadderForge.BAD);
        due.is("k far", f.ladder(0, 1, Integer.MIN_VALUE), LadderForge.BAD);
    }

    private static void neededWord() {
        due.sentence("NEEDED: the word by which, were it known to the first one as well, the LADDER would be shortest");
        for (int word = 0; word < 16; word++) {
            LadderForge f = new LadderForge();
            f.edition(0, 0);
            f.edition(1 << word, 0);
            due.is("where none was", f.needed(0, 1, 0), word);
            due.is("one build", f.needed(0, 1, 1), 1);
            due.is("it is still none", f.ladder(0, 1, -1), LadderForge.NONE);
        }
        LadderForge f = row(12);
        due.is("of eleven builds", f.needed(0, 11, 0), 11);
        due.is("one", f.needed(0, 11, 1), 1);
        due.is("eleven still", f.ladder(0, 11, -1), 11);
        LadderForge g = new LadderForge();
        // two words at once are used by the last, so that one more word shortens by one alone
        g.edition(0, 1);
        g.edition(1, 2);
        g.edition(2, 4);
        g.edition(4, 8 | 16);
        g.edition(8 | 16, 0);
        due.is("the word of the shortest", g.needed(0, 4, 0), 2);
        due.is("two builds of four", g.needed(0, 4, 1), 2);
    }

    private static void neededLeast() {
        due.sentence("of several the least");
        LadderForge f = new LadderForge();
        f.edition(0, 0);
        f.edition(1 << 15 | 1 << 14, 0);
        f.edition(1 << 9, 1 << 15 | 1 << 14);
        f.edition(1 << 3, 1 << 15 | 1 << 14);
        f.edition(1 << 12, 1 << 15 | 1 << 14);
        due.is("3 of 3, 9, 12", f.needed(0, 1, 0), 3);
        due.is("two builds", f.needed(0, 1, 1), 2);
        // a longer way by word 0 does not count
        f.edition(1, 1 << 9);
        due.is("not 0, which takes three", f.needed(0, 1, 0), 3);
        f.edition(1 << 15, 0);
        due.is("the last word", f.needed(0, 6, 0), 15);
    }

    private static void neededNone() {
        due.sentence("NONE: by none would it be shorter than it is");
        LadderForge f = new LadderForge();
        f.edition(0, 1);
        f.edition(1, 0);
        f.edition(6, 0);
        for (int what = 0; what < 2; what++) {
            due.is("one build is the least", f.needed(0, 1, what), LadderForge.NONE);
            due.is("to itself", f.needed(0, 0, what), LadderForge.NONE);
            due.is("two words are needed", f.needed(0, 2, what), LadderForge.NONE);
        }
        // two builds by any way, though 0 would learn one word more
        f.edition(1, 6);
        due.is("two", f.ladder(0, 2, -1), 2);
        due.is("no word makes it one", f.needed(0, 2, 0), LadderForge.NONE);
        due.is("nor tells how many", f.needed(0, 2, 1), LadderForge.NONE);
    }

    private static void neededRefused() {
        due.sentence("the word (what = 0), builds with it (1); NONE. BAD");
        LadderForge f = row(3);
        int[] wrong = {-1, 2, Integer.MIN_VALUE, Integer.MAX_VALUE};
        for (int what : wrong) {
            due.is("what " + what, f.needed(0, 2, what), LadderForge.BAD);
            due.is("what " + what + " where none is needed", f.needed(0, 0, what), LadderForge.BAD);
        }
        due.is("word", f.needed(0, 2, 0), 2);
        due.is("builds", f.needed(0, 2, 1), 1);
    }

    /** An object whose tool 1 has 256 bytes, 0 to 255, and is BUILT by tool 0, by NAMED. */
    private static LadderForge whole() {
        LadderForge f = new LadderForge();
        Due.named(f, 0, "L: load C out plus 1 store C zero Z jump L Z: stop C: byte 0");
        f.build(0, 7);
        return f;
    }

    private static void weightOfTool() {
        due.sentence("TOOL how many bytes it has");
        LadderForge f = whole();
        due.is("256", f.weight(0, 1), 256);
        due.is("1", f.weight(0, Due.tool(f, 0, 255)), 1);
    }

    private static void weightOfPaired() {
        due.sentence("PAIRED up, and 9 if it is CHECKED");
        LadderForge f = whole();
        int one = Due.tool(f, 0, 255);
        due.is("not CHECKED", f.weight(1, one), 1);
        f.check(one, 1);
        due.is("CHECKED", f.weight(1, one), 10);
        due.is("as if PAIRED", f.weight(1, 1), 256);
        f.check(one, 0);
        due.is("no more CHECKED", f.weight(1, one), 1);
    }

    private static void weightOfNamed() {
        due.sentence("NAMED up, and twice how many of its bytes are 16 and more");
        LadderForge f = whole();
        due.is("15", f.weight(2, Due.tool(f, 0, 15)), 1);
        due.is("16", f.weight(2, Due.tool(f, 0, 16)), 3);
        due.is("0, 15, 16, 255", f.weight(2, Due.tool(f, 0, 0, 15, 16, 255)), 8);
        due.is("240 of 256", f.weight(2, 1), 256 + 480);
    }

    private static void weightOfBuilt() {
        due.sentence("BUILT up, and how long its CHAIN is");
        LadderForge f = whole();
        due.is("alone", f.weight(3, Due.tool(f, 0, 0)), 2);
        due.is("of two", f.weight(3, 1), 736 + 2);
        Due.tool(f, 0, 1, 13, 6, 2, 11, 0, 0);
        Due.put(f, 0, Due.signs(1, 13, 6, 2, 11, 0, 0));
        for (int i = 4; i < 12; i++) {
            due.is("built " + i, f.build(i - 1, 0), i);
        }
        due.is("of nine", f.weight(3, 11), 7 + 9);
    }

    private static void weightOfSealed() {
        due.sentence("SEALED up times 3, modulo 251");
        LadderForge f = whole();
        due.is("738 times 3", f.weight(4, 1), 2214 - 8 * 251);
        // BUILT of n bytes below 16, alone, is n + 1
        Due.put(f, 1, Due.times("00", 82));
        due.is("249", f.weight(4, f.pairs(1)), 249);
        Due.put(f, 1, Due.times("00", 83));
        due.is("252", f.weight(4, f.pairs(1)), 1);
        Due.put(f, 1, "10");
        due.is("12", f.weight(4, f.pairs(1)), 12);
        // 84 bytes, 83 of them 16 and more, alone: 84 + 166 + 1
        Due.put(f, 1, Due.times("ff", 83) + "00");
        due.is("251 times 3", f.weight(4, f.pairs(1)), 0);
    }

    private static void weightOfDoubted() {
        due.sentence("DOUBTED a third of up, rounded down");
        LadderForge f = whole();
        for (int bytes = 1; bytes <= 7; bytes++) {
            Due.put(f, 0, Due.times("ff", bytes));
            int tool = f.pairs(0);
            f.check(tool, 1);
            due.is(bytes + " bytes", f.weight(5, tool), bytes / 3);
        }
        due.is("256 bytes", f.weight(5, 1), 85);
    }

    private static void weightRefused() {
        due.sentence("WEIGHT of a TOOL as if of a KIND. BAD (KINDS 0 .. 5)");
        LadderForge f = new LadderForge();
        for (int kind = -1; kind < 7; kind++) {
            due.is("no tool is there", f.weight(kind, 0), LadderForge.BAD);
        }
        Due.tool(f, 0, 0);
        int[] kinds = {-1, 6, Integer.MIN_VALUE, Integer.MAX_VALUE};
        for (int kind : kinds) {
            due.is("kind " + kind, f.weight(kind, 0), LadderForge.BAD);
        }
        int[] tools = {-1, 1, 12, Integer.MIN_VALUE, Integer.MAX_VALUE};
        for (int tool : tools) {
            for (int kind = 0; kind < 6; kind++) {
                due.is("weight(" + kind + ", " + tool + ")", f.weight(kind, tool), LadderForge.BAD);
            }
        }
        due.is("nothing came to THE TRACE", f.trace(), 0);
    }

    private static void counts() {
        due.sentence("0 TOOLS, 1 EDITIONS, 2 bytes typed, 3 TOOLS that are CHECKED, 4 SEALED");
        LadderForge f = new LadderForge();
        for (int i = 0; i < 12; i++) {
            Due.tool(f, 0, 2, 0);
            f.edition(0, 0);
            due.is("CHECKED, " + i, f.count(3), i);
            due.is("SEALED, " + i, f.count(4), i);
            f.check(i, 1);
        }
        Due.type(f, Due.times("x", 200));
        int[] most = {12, 12, 200, 12, 12};
        for (int what = 0; what < most.length; what++) {
            due.is("the most, " + what, f.count(what), most[what]);
        }
        f.clear();
        f.text(0);
        int[] then = {12, 12, 0, 12, 0};
        for (int what = 0; what < then.length; what++) {
            due.is("when all are STALE, " + what, f.count(what), then[what]);
        }
    }

    private static void countRefused() {
        due.sentence("count .. BAD");
        LadderForge f = new LadderForge();
        int[] wrong = {-1, 5, Integer.MIN_VALUE, Integer.MAX_VALUE};
        for (int what : wrong) {
            due.is("count(" + what + ")", f.count(what), LadderForge.BAD);
        }
    }

    private static void traced() {
        due.sentence("numbers in brackets come to THE TRACE as often as weight() asks that body");
        long[] more = {1, 11, 101, 1101, 11101, 100001};
        for (int kind = 0; kind < 6; kind++) {
            LadderForge f = new LadderForge();
            Due.tool(f, 0, 0);
            for (int often = 0; often <= 12; often++) {
                due.is("kind " + kind + ", " + often + " times", f.trace(), often * more[kind]);
                f.weight(kind, 0);
            }
        }
        LadderForge f = new LadderForge();
        Due.tool(f, 0, 0);
        for (int often = 0; often < 500; often++) {
            f.weight(5, 0);
        }
        due.is("the most an object can come to, or near", f.trace(), 500 * 100001L);
    }

    private static void tracedByWeightAlone() {
        due.sentence("as often as weight() asks that body (no other call)");
        LadderForge f = whole();
        f.weight(6, 0);
        f.weight(-1, 0);
        f.weight(0, 2);
        f.weight(0, -1);
        f.sealed(1);
        f.chain(1, -1);
        f.count(4);
        f.least(3);
        f.stale();
        f.tool(1, 0);
        due.is("nothing", f.trace(), 0);
        due.is("and nothing by asking", f.trace(), 0);
    }
}
