/** "An object is used for at most 512 calls after it has been made": each call as the 512th, and 512 of the dearest. */
public final class EdgesCallsTest {
    private static final int MOST_CALLS = 512, SET_UP = 50;
    private static final Due due = new Due();

    private interface Asked {
        long ask(LadderForge f);
    }

    public static void main(String[] args) {
        due.sentence("An object is used for at most 512 calls after it has been made");
        texts();
        runs();
        waysRound();
        ladders();
        dearest();
        manyTexts();
        due.end();
    }

    /** Tool 0 copies, by PAIRS and CHECKED; 1 is BUILT by it and copies; 2 by NAMED puts 7 out. Takes SET_UP calls. */
    private static LadderForge set() {
        LadderForge f = new LadderForge();
        int calls = 0;
        // 3 calls and a text's eights: 14 bytes, 7 bytes, 14 bytes
        Due.tool(f, 0, 1, 13, 6, 2, 11, 0, 0);
        calls += 1 + 2 + 1 + 1;
        Due.put(f, 1, Due.signs(1, 13, 6, 2, 11, 0, 0));
        calls += 1 + 1 + 1;
        f.build(0, 1);
        calls++;
        Due.named(f, 2, "set 7 out stop");
        calls += 1 + 2 + 1 + 1;
        f.check(0, 1);
        f.edition(0, 1);
        f.edition(1, 2);
        f.edition(2, 0);
        f.run(1, 1);
        f.weight(4, 1);
        calls += 6;
        while (calls < SET_UP) {
            f.type('x', 1);
            calls++;
        }
        return f;
    }

    private static void last(String call, long want, Asked asked) {
        LadderForge f = set();
        for (int calls = SET_UP; calls < MOST_CALLS - 1; calls++) {
            f.count(calls % 6);
        }
        due.is("the 512th, " + call, asked.ask(f), want);
    }

    private static void texts() {
        last("type", 38, f -> f.type(-1, 8));
        last("clear", 30, f -> f.clear());
        last("text", 30, f -> f.text(7));
        last("read", 13, f -> f.read(1, 1));
        last("pairs", 3, f -> f.pairs(0));
        last("named", 3, f -> f.named(2));
        last("build", 3, f -> f.build(2, 7));
        last("tool", 7, f -> f.tool(1, 0));
        last("code", 6, f -> f.code(1, 6, 1));
        last("type, refused", LadderForge.BAD, f -> f.type(0, 0));
        last("build, refused", LadderForge.STATE, f -> f.build(0, 7));
    }

    private static void runs() {
        last("run", 7, f -> f.run(0, 1));
        last("ran", 31, f -> f.ran(0));
        last("tape", 13, f -> f.tape(1, 0));
    }

    private static void waysRound() {
        last("rebuilt", 0, f -> f.rebuilt(1));
        last("stale", 0, f -> f.stale());
        last("settles", 1, f -> f.settles(0, 1));
        last("round", 0, f -> f.round(0, 1, 1));
        last("hides", 0, f -> f.hides(0, 1, 1));
        last("check", 1, f -> f.check(0, 0));
        last("chain", 0, f -> f.chain(1, 1));
        last("sealed", 1, f -> f.sealed(1));
        last("least", 0, f -> f.least(7));
        last("same", 0, f -> f.same(0, 1));
    }

    private static void ladders() {
        last("edition", 3, f -> f.edition(0, 0));
        last("ladder", 2, f -> f.ladder(0, 2, -1));
        last("needed", 1, f -> f.needed(0, 2, 0));
        last("weight", 27, f -> f.weight(4, 1));
        last("count", 2, f -> f.count(4));
        last("trace", 11101, f -> f.trace());
    }

    /** Twelve tools that go on to the last of 5000 orders when they are made again. */
    private static void dearest() {
        LadderForge f = new LadderForge();
        // 20 orders a turn, 4999 in all, and stop
        Due.named(f, 0, "L: load C plus 255 store C out " + Due.times("to ", 13)
            + "load C zero Z jump L Z: stop C: byte 250");
        for (int i = 1; i < 12; i++) {
            due.is("built", f.build(0, 7), i);
        }
        for (int calls = 40; calls < MOST_CALLS; calls++) {
            due.is("call " + calls, calls % 2 == 0 ? f.stale() : f.count(4), 0);
        }
    }

    private static void manyTexts() {
        LadderForge f = new LadderForge();
        for (int often = 0; often < MOST_CALLS / 2; often++) {
            due.is("typed", f.type(often, 1), 1);
            due.is("text", f.text(often % 8), 1);
        }
        LadderForge g = new LadderForge();
        for (int calls = 0; calls < MOST_CALLS - 1; calls++) {
            due.is("type", g.type(calls, 1), calls < 200 ? calls + 1 : LadderForge.FULL);
        }
        due.is("200 are typed", g.clear(), 200);
    }
}
