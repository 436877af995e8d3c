/** Promises 24 to 29: edition, ladder, needed, weight, count, trace. */
public final class LaddersTest {
    private static final Due due = new Due();

    public static void main(String[] args) {
        editions();
        ladder();
        needed();
        weight();
        trace();
        count();
        due.end();
    }

    private static void editions() {
        LadderForge f = new LadderForge();
        due.is("edition(-1, 0)", f.edition(-1, 0), LadderForge.BAD);
        due.is("edition(65536, 0)", f.edition(65536, 0), LadderForge.BAD);
        due.is("edition(0, -1)", f.edition(0, -1), LadderForge.BAD);
        due.is("edition(0, 65536)", f.edition(0, 65536), LadderForge.BAD);
        due.is("none is there", f.count(1), 0);
        for (int i = 0; i < 12; i++) {
            due.is("edition " + i, f.edition(65535, 65535), i);
        }
        due.is("a 13th", f.edition(0, 0), LadderForge.FULL);
        due.is("BAD ahead of FULL", f.edition(0, 65536), LadderForge.BAD);
        due.is("12 are there", f.count(1), 12);
    }

    /** From 0 to 5 lead 0 1 4 5 and 0 2 3 5. */
    private static LadderForge twoWays() {
        LadderForge f = new LadderForge();
        f.edition(1 << 15, 1);
        f.edition(1, 2);
        f.edition(1, 4);
        f.edition(4, 8);
        f.edition(2, 8);
        f.edition(8, 0);
        return f;
    }

    private static void ladder() {
        LadderForge f = twoWays();
        due.is("builds", f.ladder(0, 5, -1), 3);
        int[] want = {0, 1, 4, 5, LadderForge.NONE};
        for (int k = 0; k < want.length; k++) {
            due.is("ladder(0, 5, " + k + ")", f.ladder(0, 5, k), want[k]);
        }
        due.is("far behind", f.ladder(0, 5, Integer.MAX_VALUE), LadderForge.NONE);
        due.is("one build", f.ladder(3, 5, -1), 1);
        due.is("to itself", f.ladder(5, 5, -1), 0);
        due.is("itself", f.ladder(5, 5, 0), 5);
        due.is("no step to itself", f.ladder(5, 5, 1), LadderForge.NONE);
        due.is("there is none", f.ladder(5, 0, -1), LadderForge.NONE);
        due.is("so it has no first", f.ladder(5, 0, 0), LadderForge.NONE);
        due.is("ladder(0, 5, -2)", f.ladder(0, 5, -2), LadderForge.BAD);
        due.is("ladder(6, 0, 0)", f.ladder(6, 0, 0), LadderForge.BAD);
        due.is("ladder(0, 6, 0)", f.ladder(0, 6, 0), LadderForge.BAD);
        due.is("ladder(-1, 0, 0)", f.ladder(-1, 0, 0), LadderForge.BAD);
        due.is("ladder(0, -1, 0)", f.ladder(0, -1, 0), LadderForge.BAD);
        longest();
    }

    private static void longest() {
        LadderForge f = new LadderForge();
        for (int i = 11; i >= 0; i--) {
            f.edition(1 << i, 1 << (i + 1));
        }
        due.is("eleven builds", f.ladder(11, 0, -1), 11);
        for (int k = 0; k <= 11; k++) {
            due.is("eleven builds, " + k, f.ladder(11, 0, k), 11 - k);
        }
        due.is("back there is none", f.ladder(0, 11, -1), LadderForge.NONE);
        LadderForge g = new LadderForge();
        g.edition(0, 1);
        g.edition(3, 0);
        due.is("one word of two is not all", g.ladder(0, 1, -1), LadderForge.NONE);
    }

    private static void needed() {
        LadderForge f = twoWays();
        due.is("the word for one build", f.needed(0, 5, 0), 3);
        due.is("one build", f.needed(0, 5, 1), 1);
        due.is("none is shorter", f.needed(3, 5, 0), LadderForge.NONE);
        due.is("none is shorter, builds", f.needed(3, 5, 1), LadderForge.NONE);
        due.is("to itself", f.needed(0, 0, 0), LadderForge.NONE);
        due.is("to itself, builds", f.needed(0, 0, 1), LadderForge.NONE);
        due.is("word 0", f.needed(5, 1, 0), 0);
        due.is("word 0, builds", f.needed(5, 1, 1), 1);
        due.is("where none was", f.needed(5, 0, 0), 15);
        due.is("where none was, builds", f.needed(5, 0, 1), 1);
        f.edition(1 << 4 | 1 << 5, 0);
        f.edition(1 << 7, 1 << 4 | 1 << 5);
        f.edition(1 << 6, 1 << 4 | 1 << 5);
        due.is("of several the least", f.needed(5, 6, 0), 6);
        due.is("two builds", f.needed(5, 6, 1), 2);
        due.is("its step is not told by ladder", f.ladder(5, 6, -1), LadderForge.NONE);
        f.edition(1 << 8 | 1 << 9, 0);
        due.is("by no word", f.needed(5, 9, 0), LadderForge.NONE);
        due.is("by no word, builds", f.needed(5, 9, 1), LadderForge.NONE);
        due.is("needed(0, 5, 2)", f.needed(0, 5, 2), LadderForge.BAD);
        due.is("needed(0, 5, -1)", f.needed(0, 5, -1), LadderForge.BAD);
        due.is("needed(10, 0, 0)", f.needed(10, 0, 0), LadderForge.BAD);
        due.is("needed(0, 10, 0)", f.needed(0, 10, 0), LadderForge.BAD);
        due.is("needed(-1, 0, 0)", f.needed(-1, 0, 0), LadderForge.BAD);
        due.is("needed(0, -1, 0)", f.needed(0, -1, 0), LadderForge.BAD);
        due.is("ladders are as they were", f.ladder(0, 5, -1), 3);
    }

    private static void weight() {
        LadderForge f = new LadderForge();
        Due.put(f, 0, Due.times("10", 60) + Due.times("0f", 40));
        due.is("100 bytes, 60 of them 16", f.pairs(0), 0);
        int[] want = {100, 100, 220, 221, 663 - 502, 33};
        for (int kind = 0; kind < 6; kind++) {
            due.is("weight(" + kind + ", 0)", f.weight(kind, 0), want[kind]);
        }
        f.check(0, 1);
        due.is("PAIRED, checked", f.weight(1, 0), 109);
        due.is("NAMED, checked", f.weight(2, 0), 220);
        due.is("DOUBTED, checked", f.weight(5, 0), 33);
        int copy = Due.named(f, 1, "L: in end Z out jump L Z: stop");
        Due.put(f, 2, "" + (char) 2 + (char) 0);
        int built = f.build(copy, 2);
        int again = f.build(built, 2);
        due.is("a chain of 3", f.weight(3, again), 1 + 3);
        due.is("a chain of 3, SEALED", f.weight(4, again), 12);
        due.is("DOUBTED, rounded down", f.weight(5, built), 0);
        due.is("weight(-1, 0)", f.weight(-1, 0), LadderForge.BAD);
        due.is("weight(6, 0)", f.weight(6, 0), LadderForge.BAD);
        due.is("weight(0, 4)", f.weight(0, 4), LadderForge.BAD);
        due.is("weight(0, -1)", f.weight(0, -1), LadderForge.BAD);
    }

    private static void trace() {
        LadderForge f = new LadderForge();
        Due.tool(f, 0, 0);
        long[] more = {1, 11, 101, 1101, 11101, 100001};
        long want = 0;
        for (int often = 0; often < 12; often++) {
            for (int kind = 0; kind < 6; kind++) {
                f.weight(kind, 0);
                want += more[kind];
                due.is("trace behind kind " + kind, f.trace(), want);
            }
        }
        f.weight(6, 0);
        f.weight(-1, 0);
        f.weight(0, 1);
        due.is("refused, nothing comes to it", f.trace(), want);
        f.chain(0, -1);
        f.sealed(0);
        f.count(4);
        due.is("only weight() asks", f.trace(), want);
    }

    private static void count() {
        LadderForge f = new LadderForge();
        f.edition(0, 0);
        f.edition(0, 0);
        Due.tool(f, 0, 2, 0);
        Due.tool(f, 1, 0);
        f.build(0, 7);
        f.check(0, 1);
        f.type(0, 5);
        int[] want = {3, 2, 5, 1, 2};
        for (int what = 0; what < want.length; what++) {
            due.is("count(" + what + ")", f.count(what), want[what]);
        }
        due.is("count(5)", f.count(5), LadderForge.BAD);
        due.is("count(-1)", f.count(-1), LadderForge.BAD);
    }
}
