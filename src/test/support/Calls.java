import java.util.Random;

/** Random calls: the same call can be asked of the class and of the model. */
final class Calls {
    static final int KINDS = 28;
    private static final String[] NAMES = {"type", "clear", "text", "read", "pairs", "named", "build", "tool", "code",
        "run", "ran", "tape", "rebuilt", "stale", "settles", "round", "hides", "check", "chain", "sealed", "least",
        "same", "edition", "ladder", "needed", "weight", "count", "trace"};
    private static final int[] ARGUMENTS = {1, 0, 1, 2, 1, 1, 2, 2, 3, 2, 1, 2, 1, 0, 2, 3, 3, 2, 2, 1, 1,
        2, 2, 3, 3, 2, 1, 0};
    private static final int[] EDGES = {-1, -2, -9, 12, 13, 16, 200, 255, 256, 4095, 4096, 65535, 65536,
        Integer.MAX_VALUE, Integer.MIN_VALUE};

    record Call(int kind, long v, int a, int b, int c) {
        @Override
        public String toString() {
            String args = kind == 0 ? v + ", " + a : a + ", " + b + ", " + c;
            return NAMES[kind] + "(" + args + ") [first " + ARGUMENTS[kind] + "]";
        }
    }

    private Calls() { }

    static Call any(Random random) {
        int kind = random.nextInt(KINDS);
        int wide = random.nextInt(10) == 0 ? 300 : kind == 20 || kind == 22 ? 4096 : 12;
        Call call = new Call(kind, random.nextLong(), near(random, wide), near(random, wide), near(random, wide));
        // the last argument is most often a small one, which is what most calls want there
        return random.nextInt(4) == 0 ? call : new Call(kind, call.v, kind == 20 || kind == 22 ? call.a : call.a % 8,
            kind == 22 ? call.b : call.b % 8, call.c % 3);
    }

    private static int near(Random random, int wide) {
        return random.nextInt(12) == 0 ? EDGES[random.nextInt(EDGES.length)] : random.nextInt(wide);
    }

    static long ask(LadderForge f, Call c) {
        switch (c.kind) {
            case 0: return f.type(c.v, c.a);
            case 1: return f.clear();
            case 2: return f.text(c.a);
            case 3: return f.read(c.a, c.b);
            case 4: return f.pairs(c.a);
            case 5: return f.named(c.a);
            case 6: return f.build(c.a, c.b);
            case 7: return f.tool(c.a, c.b);
            case 8: return f.code(c.a, c.b, c.c);
            case 9: return f.run(c.a, c.b);
            case 10: return f.ran(c.a);
            case 11: return f.tape(c.a, c.b);
            case 12: return f.rebuilt(c.a);
            case 13: return f.stale();
            case 14: return f.settles(c.a, c.b);
            case 15: return f.round(c.a, c.b, c.c);
            case 16: return f.hides(c.a, c.b, c.c);
            case 17: return f.check(c.a, c.b);
            case 18: return f.chain(c.a, c.b);
            case 19: return f.sealed(c.a);
            case 20: return f.least(c.a);
            case 21: return f.same(c.a, c.b);
            case 22: return f.edition(c.a, c.b);
            case 23: return f.ladder(c.a, c.b, c.c);
            case 24: return f.needed(c.a, c.b, c.c);
            case 25: return f.weight(c.a, c.b);
            case 26: return f.count(c.a);
            default: return f.trace();
        }
    }

    static long ask(PlainModel f, Call c) {
        switch (c.kind) {
            case 0: return f.type(c.v, c.a);
            case 1: return f.clear();
            case 2: return f.text(c.a);
            case 3: return f.read(c.a, c.b);
            case 4: return f.pairs(c.a);
            case 5: return f.named(c.a);
            case 6: return f.build(c.a, c.b);
            case 7: return f.tool(c.a, c.b);
            case 8: return f.code(c.a, c.b, c.c);
            case 9: return f.run(c.a, c.b);
            case 10: return f.ran(c.a);
            case 11: return f.tape(c.a, c.b);
            case 12: return f.rebuilt(c.a);
            case 13: return f.stale();
            case 14: return f.settles(c.a, c.b);
            case 15: return f.round(c.a, c.b, c.c);
            case 16: return f.hides(c.a, c.b, c.c);
            case 17: return f.check(c.a, c.b);
            case 18: return f.chain(c.a, c.b);
            case 19: return f.sealed(c.a);
            case 20: return f.least(c.a);
            case 21: return f.same(c.a, c.b);
            case 22: return f.edition(c.a, c.b);
            case 23: return f.ladder(c.a, c.b, c.c);
            case 24: return f.needed(c.a, c.b, c.c);
            case 25: return f.weight(c.a, c.b);
            case 26: return f.count(c.a);
            default: return f.trace();
        }
    }
}
