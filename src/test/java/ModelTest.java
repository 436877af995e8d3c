import java.util.Random;

/** All promises: random runs of calls, each answer compared with the plain model's. */
public final class ModelTest {
    private static final int RUNS = 3000, CALLS = 512;
    private static final Due due = new Due();

    public static void main(String[] args) {
        for (int seed = 1; seed <= RUNS; seed++) {
            oneRun(new Random(seed), seed);
        }
        due.end();
    }

    private static void oneRun(Random random, int seed) {
        LadderForge forge = new LadderForge();
        PlainModel model = new PlainModel();
        int calls = 0;
        // a quarter of the runs has whole programs only, so that chains grow long
        boolean wild = seed % 4 != 0;
        while (calls < CALLS) {
            if (random.nextInt(6) == 0) {
                calls += put(forge, model, random, CALLS - calls);
            }
            Calls.Call call = Calls.any(random);
            if (wild || call.kind() > 2) {
                due.is("seed " + seed + ", call " + calls + ": " + call, Calls.ask(forge, call), Calls.ask(model, call));
                calls++;
            }
        }
    }

    /** Types a text in eights, if there are calls enough left: how many it took. */
    private static int put(LadderForge forge, PlainModel model, Random random, int left) {
        String text = RandomTexts.any(random);
        int took = 1;
        if ((text.length() + 7) / 8 + 4 > left) {
            return 0;
        }
        due.is("clear", forge.clear(), model.clear());
        for (int at = 0; at < text.length(); at += 8) {
            int n = Math.min(8, text.length() - at);
            long v = random.nextLong() << 8 * (n - 1) << 8;
            for (int i = 0; i < n; i++) {
                v |= (long) text.charAt(at + i) << 8 * (n - 1 - i);
            }
            due.is("type", forge.type(v, n), model.type(v, n));
            took++;
        }
        int i = random.nextInt(8);
        due.is("text", forge.text(i), model.text(i));
        if (random.nextInt(2) == 0) {
            boolean names = random.nextBoolean();
            due.is((names ? "named of '" : "pairs of '") + text + "'", names ? forge.named(i) : forge.pairs(i),
                names ? model.named(i) : model.pairs(i));
            took++;
        }
        return took + 1;
    }
}
