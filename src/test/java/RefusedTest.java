import java.util.Random;

/** All promises: no call throws, a refused call changes nothing, the same calls give the same answers. */
public final class RefusedTest {
    private static final int RUNS = 2000, CALLS = 300;
    private static final Due due = new Due();

    public static void main(String[] args) {
        for (int seed = 1; seed <= RUNS; seed++) {
            oneRun(seed);
        }
        due.end();
    }

    /** One object is asked all calls, the other only those that were not refused. */
    private static void oneRun(int seed) {
        Random random = new Random(seed);
        LadderForge all = new LadderForge();
        LadderForge some = new LadderForge();
        for (int i = 0; i < CALLS; i++) {
            if (i % 60 == 0) {
                String text = RandomTexts.any(random);
                text = text.substring(0, Math.min(30, text.length()));
                Due.put(all, i / 60, text);
                Due.put(some, i / 60, text);
            }
            Calls.Call call = Calls.any(random);
            long answer = Calls.ask(all, call);
            if (answer != LadderForge.BAD && answer != LadderForge.STATE && answer != LadderForge.FULL) {
                due.is("seed " + seed + ", call " + i + ": " + call, answer, Calls.ask(some, call));
            }
        }
    }
}
