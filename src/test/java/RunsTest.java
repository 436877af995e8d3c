/** Promises 11 to 13: run, ran, tape; the sixteen orders and HARM. */
public final class RunsTest {
    private static final Due due = new Due();

    public static void main(String[] args) {
        orders();
        goingRound();
        tapeIn();
        harmOne();
        harmTwo();
        harmThree();
        latestOnly();
        wrong();
        due.end();
    }

    /** Runs these bytes on the tape; then what ran() tells, in its order. */
    private static LadderForge ran(String of, int answer, int[] want, String tape, int... bytes) {
        LadderForge f = new LadderForge();
        int tool = Due.tool(f, 0, bytes);
        Due.put(f, 1, tape);
        due.is(of + ": run", f.run(tool, 1), answer);
        for (int what = 0; what < want.length; what++) {
            due.is(of + ": ran(" + what + ")", f.ran(what), want[what]);
        }
        return f;
    }

    private static int[] row(int... all) {
        return all;
    }

    private static void orders() {
        // what ran() tells: orders, read, A, X, P, out
        ran("stop", 0, row(1, 0, 0, 0, 1, 0), "", 0);
        ran("in", 0, row(2, 1, 200, 0, 2, 0), (char) 200 + "b", 1, 0);
        LadderForge f = ran("out", 2, row(4, 0, 9, 0, 5, 2), "", 3, 9, 2, 2, 0);
        due.is("out: tape", f.tape(1, 0), 9);
        ran("set", 0, row(2, 0, 255, 0, 3, 0), "", 3, 255, 0);
        ran("load", 0, row(2, 0, 4, 0, 3, 0), "", 4, 0, 0);
        f = ran("store", 0, row(3, 0, 8, 0, 5, 0), "", 3, 8, 5, 250, 0);
        due.is("store: memory", f.tape(250, 1), 8);
        ran("add", 0, row(3, 0, 44, 0, 5, 0), "", 3, 100, 6, 6, 0, 0, 200);
        ran("sub", 0, row(3, 0, 156, 0, 5, 0), "", 3, 100, 7, 6, 0, 0, 200);
        ran("get", 0, row(4, 0, 77, 6, 5, 0), "", 3, 6, 10, 8, 0, 0, 77);
        f = ran("put", 0, row(5, 0, 5, 66, 7, 0), "", 3, 66, 10, 3, 5, 9, 0);
        due.is("put: memory", f.tape(66, 1), 5);
        ran("to", 0, row(3, 0, 66, 66, 4, 0), "", 3, 66, 10, 0);
        ran("jump", 0, row(2, 0, 0, 0, 5, 0), "", 11, 4, 99, 99, 0);
        ran("zero, A 0", 0, row(2, 0, 0, 0, 5, 0), "", 12, 4, 0, 0, 0);
        ran("zero, A 1", 0, row(3, 0, 1, 0, 5, 0), "", 3, 1, 12, 6, 0, 0, 0);
        ran("end, END 0", 0, row(3, 1, 97, 0, 4, 0), "a", 1, 13, 5, 0, 0, 0);
        ran("end, END 1", 0, row(3, 0, 0, 0, 6, 0), "", 1, 13, 5, 0, 0, 0);
        ran("plus", 0, row(3, 0, 44, 0, 5, 0), "", 3, 100, 14, 200, 0);
        ran("minus, A 128", 0, row(3, 0, 128, 0, 7, 0), "", 3, 128, 15, 6, 0, 0, 0);
        ran("minus, A 255", 0, row(3, 0, 255, 0, 7, 0), "", 3, 255, 15, 6, 0, 0, 0);
        ran("minus, A 127", 0, row(3, 0, 127, 0, 5, 0), "", 3, 127, 15, 6, 0, 0, 0);
        ran("behind the tool there is 0", 0, row(2, 0, 5, 0, 3, 0), "", 3, 5);
    }

    private static void goingRound() {
        // a set is stored at 255: its n is the byte at 0, and P goes on at 1
        ran("n goes round", 0, row(7, 0, 11, 11, 3, 0), "",
            11, 10, 0, 0, 0, 0, 0, 0, 0, 0, 3, 3, 5, 255, 11, 255);
        // an in is stored at 255: P goes on at 0
        ran("P goes round", 0, row(7, 0, 0, 0, 9, 0), "", 13, 8, 3, 1, 5, 255, 11, 255, 0);
        ran("P goes round behind stop", 0, row(2, 0, 0, 0, 0, 0), "", 11, 255);
    }

    private static void tapeIn() {
        LadderForge f = ran("reading", 4, row(9, 2, 0, 0, 9, 4), "ab", 1, 2, 1, 2, 1, 2, 1, 2, 0);
        due.is("first", f.tape(0, 0), 'a');
        due.is("second", f.tape(1, 0), 'b');
        due.is("none", f.tape(2, 0), 0);
        due.is("none again", f.tape(3, 0), 0);
        due.is("behind what came out", f.tape(4, 0), LadderForge.BAD);
        due.is("memory keeps the tool", f.tape(2, 1), 1);
        ran("a 0 byte is read", 0, row(3, 1, 0, 0, 4, 0), "" + (char) 0, 1, 13, 5, 0, 0, 0);
    }

    private static void harmOne() {
        LadderForge f = ran("no order", -11, row(2, 0, 4, 0, 3, 1), "", 3, 4, 2, 16, 2, 0);
        due.is("what came out ahead of it", f.tape(0, 0), 4);
        due.is("and no more", f.tape(1, 0), LadderForge.BAD);
        ran("255 is none", -11, row(0, 0, 0, 0, 0, 0), "", 255);
        ran("n may be any", 0, row(2, 0, 16, 0, 3, 0), "", 3, 16, 0);
        due.is("no order behind 5000", afterOrders(4999, "to byte 16").run(0, 7), -11);
    }

    /** An object whose tool 0 does so many orders (20 k - 1), then what is told. */
    private static LadderForge afterOrders(int orders, String then) {
        LadderForge f = new LadderForge();
        int turns = (orders + 1) / 20;
        // 20 orders a turn, but for the last, which goes on at Z without a jump
        Due.named(f, 0, "L: load C plus 255 store C out " + Due.times("to ", 13) + "load C zero Z jump L Z: "
            + then + " C: byte " + turns);
        return f;
    }

    private static void harmTwo() {
        LadderForge f = ran("257 bytes", -12, row(512, 0, 0, 0, 0, 256), "", 2, 11, 0);
        due.is("the 256th", f.tape(255, 0), 0);
        due.is("tape(256, 0)", f.tape(256, 0), LadderForge.BAD);
        LadderForge g = new LadderForge();
        int tool = Due.named(g, 0, "L: load C out plus 255 store C zero Z jump L Z: stop C: byte 0");
        due.is("256 bytes are no HARM", g.run(tool, 7), 256);
        due.is("and can be told", g.ran(5), 256);
    }

    private static void harmThree() {
        ran("5001 orders", -13, row(5000, 0, 0, 0, 0, 0), "", 11, 0);
        ran("too long, P stays", -13, row(5000, 0, 0, 0, 1, 0), "", 10, 11, 1);
        LadderForge f = afterOrders(4999, "stop");
        due.is("stop as the 5000th", f.run(0, 7), 250);
        due.is("stop as the 5000th, orders", f.ran(0), 5000);
        due.is("stop as the 5000th, P", f.ran(4), 27);
        f = afterOrders(4999, "to stop");
        due.is("stop as the 5001st", f.run(0, 7), -13);
        due.is("stop as the 5001st, orders", f.ran(0), 5000);
        due.is("stop as the 5001st, P", f.ran(4), 27);
        due.is("what came out ahead of it", f.ran(5), 250);
        // the document leaves open which HARM it is that the 5001st order would do as a 257th out:
        // here the 5001st is not done, so nothing comes out
        f = afterOrders(4979, Due.times("out ", 7) + Due.times("to ", 14) + "out stop");
        due.is("a 257th out as the 5001st", f.run(0, 7), -13);
        due.is("256 came out", f.ran(5), 256);
        f = afterOrders(4979, Due.times("out ", 7) + Due.times("to ", 13) + "out stop");
        due.is("a 257th out as the 5000th", f.run(0, 7), -12);
        due.is("4999 orders done", f.ran(0), 4999);
    }

    private static void latestOnly() {
        LadderForge f = new LadderForge();
        int copy = Due.named(f, 0, "L: in end Z out jump L Z: stop");
        int set = Due.tool(f, 1, 3, 7, 2, 0);
        Due.put(f, 2, "abc");
        f.run(set, 2);
        f.build(copy, 2);
        f.settles(copy, 2);
        f.round(copy, copy, 0);
        f.hides(set, copy, 2);
        f.rebuilt(2);
        f.stale();
        f.sealed(2);
        due.is("refused run", f.run(9, 2), LadderForge.BAD);
        due.is("still the run()", f.ran(0), 3);
        due.is("its A", f.ran(2), 7);
        due.is("its tape", f.tape(0, 0), 7);
        due.is("its memory", f.tape(1, 1), 7);
        due.is("the next run()", f.run(copy, 2), 3);
        due.is("its orders", f.ran(0), 15);
        due.is("its tape", f.tape(2, 0), 'c');
    }

    private static void wrong() {
        LadderForge f = new LadderForge();
        due.is("run without a tool", f.run(0, 0), LadderForge.BAD);
        Due.tool(f, 0, 0);
        due.is("run(-1, 0)", f.run(-1, 0), LadderForge.BAD);
        due.is("run(1, 0)", f.run(1, 0), LadderForge.BAD);
        due.is("run(0, -1)", f.run(0, -1), LadderForge.BAD);
        due.is("run(0, 8)", f.run(0, 8), LadderForge.BAD);
        due.is("ran(-1)", f.ran(-1), LadderForge.BAD);
        due.is("ran(6)", f.ran(6), LadderForge.BAD);
        due.is("tape(-1, 0)", f.tape(-1, 0), LadderForge.BAD);
        due.is("tape(-1, 1)", f.tape(-1, 1), LadderForge.BAD);
        due.is("tape(256, 1)", f.tape(256, 1), LadderForge.BAD);
        due.is("tape(0, 2)", f.tape(0, 2), LadderForge.BAD);
        due.is("tape(0, -1)", f.tape(0, -1), LadderForge.BAD);
    }
}
