/** Part 1 of the document, promises 11 to 13: each sentence with a boundary, one method each. */
public final class EdgesMachineTest {
    private static final Due due = new Due();
    /** Puts out 0, 1 and so on up to 255. */
    private static final String COUNTS = "L: load C out plus 1 store C zero Z jump L Z: stop C: byte 0";

    public static void main(String[] args) {
        memoryBehindTheTool();
        memoryOfAWholeTool();
        zeroAtFirst();
        numberGoesRound();
        orderGoesRound();
        inOfNone();
        inOfTheLast();
        outOfAnyByte();
        moduloOnAdding();
        moduloOnTaking();
        moduloOnPlus();
        ifZero();
        ifEnd();
        ifMinus();
        ownBytesChange();
        firstAndLastPlace();
        byOneOrTwo();
        tillStop();
        harmOfNoOrder();
        harmOfNoOrderStays();
        harmOfMuchOut();
        harmOfManyOrders();
        stopAsTheLast();
        aheadOfAnyRun();
        latestRunByRun();
        tapeBounds();
        due.end();
    }

    /** Runs these bytes on the tape; then what ran() tells: ORDERS, read, A, X, P, out. */
    private static LadderForge ran(String of, int answer, int[] want, String tape, int... bytes) {
        LadderForge f = new LadderForge();
        Due.tool(f, 0, bytes);
        Due.put(f, 1, tape);
        due.is(of + ": run", f.run(0, 1), answer);
        told(of, f, want);
        return f;
    }

    private static void told(String of, LadderForge f, int... want) {
        for (int what = 0; what < want.length; what++) {
            due.is(of + ": ran(" + what + ")", f.ran(what), want[what]);
        }
    }

    private static int[] row(int... all) {
        return all;
    }

    /** What is in A behind these orders. */
    private static void leaves(String of, int a, int... bytes) {
        LadderForge f = new LadderForge();
        Due.tool(f, 0, bytes);
        due.is(of + ": run", f.run(0, 7), 0);
        due.is(of + ": A", f.ran(2), a);
    }

    private static void memoryBehindTheTool() {
        due.sentence("MEMORY of 256 bytes (a TOOL's bytes from 0 on, behind them 0)");
        LadderForge f = ran("one byte", 0, row(1, 0, 0, 0, 1, 0), "abc", 0);
        for (int at = 0; at < 256; at++) {
            due.is("memory " + at, f.tape(at, 1), 0);
        }
        f = ran("four bytes", 0, row(2, 0, 255, 0, 3, 0), "", 3, 255, 0, 254);
        int[] first = {3, 255, 0, 254, 0};
        for (int at = 0; at < first.length; at++) {
            due.is("memory " + at, f.tape(at, 1), first[at]);
        }
        due.is("the last place", f.tape(255, 1), 0);
    }

    private static void memoryOfAWholeTool() {
        due.sentence("MEMORY of 256 bytes (a TOOL's bytes from 0 on, behind them 0)");
        LadderForge f = new LadderForge();
        Due.named(f, 0, COUNTS);
        due.is("256 bytes", f.tool(f.build(0, 7), 0), 256);
        due.is("its first byte is stop", f.run(1, 7), 0);
        for (int at = 0; at < 256; at++) {
            due.is("memory " + at, f.tape(at, 1), at);
        }
        Due.tool(f, 1, 3, 9);
        f.run(2, 7);
        for (int at = 2; at < 256; at += 11) {
            due.is("nothing of the run ahead, memory " + at, f.tape(at, 1), 0);
        }
        due.is("the last place", f.tape(255, 1), 0);
    }

    private static void zeroAtFirst() {
        due.sentence("A, X, P (0 at first), END (0)");
        LadderForge f = new LadderForge();
        // A, X and END are left unlike 0; then a tool that stops at once, and one that asks for END
        int leaving = Due.tool(f, 0, 1, 3, 9, 10, 2, 16);
        int stop = Due.tool(f, 0, 0);
        int end = Due.tool(f, 0, 13, 3, 0, 16);
        due.is("leaving", f.run(leaving, 7), -11);
        told("leaving", f, 4, 0, 9, 9, 5, 1);
        due.is("stop", f.run(stop, 7), 0);
        told("stop", f, 1, 0, 0, 0, 1, 0);
        f.run(leaving, 7);
        due.is("END is 0", f.run(end, 7), 0);
        told("END is 0", f, 2, 0, 0, 0, 3, 0);
        Due.put(f, 1, "q");
        f.run(leaving, 1);
        f.run(leaving, 1);
        due.is("the tape is read from its first byte on", f.ran(1), 1);
    }

    private static void numberGoesRound() {
        due.sentence("n the byte behind it (places go round at 256)");
        // set stands at 255: its n is the byte at 0, and P goes on at 1
        ran("an order at 255 with n", 0, row(7, 0, 11, 11, 3, 0), "",
            11, 10, 0, 0, 0, 0, 0, 0, 0, 0, 3, 3, 5, 255, 11, 255);
        // plus stands at 254: its n is the byte at 255, and P goes on at 0
        ran("an order at 254 with n", 0, row(10, 0, 214, 0, 14, 0), "",
            13, 13, 1, 3, 200, 5, 255, 3, 14, 5, 254, 11, 254, 0);
    }

    private static void orderGoesRound() {
        due.sentence("An ORDER is the byte at P .. (places go round at 256)");
        // in stands at 255: P goes on at 0
        ran("an order at 255 without n", 0, row(7, 0, 0, 0, 9, 0), "", 13, 8, 3, 1, 5, 255, 11, 255, 0);
        ran("stop at 255", 0, row(2, 0, 0, 0, 0, 0), "", 11, 255);
        ran("a jump to itself at 0", -13, row(5000, 0, 0, 0, 0, 0), "", 11, 0);
        LadderForge f = new LadderForge();
        Due.named(f, 0, "L: set 10 out load C plus 1 store C zero Z jump L Z: stop C: byte 0");
        due.is("256 times to", f.tool(f.build(0, 7), 0), 256);
        due.is("it goes round 19 times", f.run(1, 7), -13);
        told("it goes round 19 times", f, 5000, 0, 0, 0, 5000 - 19 * 256, 0);
    }

    private static void inOfNone() {
        due.sentence("1 in: A becomes the next byte of THE TAPE IN; if there is none, 0, and END 1");
        ran("none on an empty tape", 0, row(3, 0, 0, 0, 4, 0), "", 3, 9, 1, 0);
        ran("END is 1", 0, row(3, 0, 0, 0, 6, 0), "", 1, 13, 5, 16, 16, 0);
        ran("END stays 1", 0, row(5, 1, 0, 0, 8, 0), "q", 1, 1, 1, 13, 7, 16, 16, 0);
        ran("a 0 that was read is no end", 0, row(3, 1, 0, 0, 4, 0), Due.signs(0), 1, 13, 5, 0, 16, 16);
        ran("255 is read", 0, row(2, 1, 255, 0, 2, 0), Due.signs(255, 1), 1, 0);
    }

    private static void inOfTheLast() {
        due.sentence("1 in: A becomes the next byte of THE TAPE IN; if there is none, 0, and END 1");
        ran("the last byte does not end it", 0, row(3, 1, 'a', 0, 4, 0), "a", 1, 13, 5, 0, 16, 16);
        LadderForge f = ran("200 bytes and none", 0, row(603, 200, 0, 0, 6, 0), Due.times("x", 200), 1, 13, 5, 11, 0, 0);
        due.is("and nothing came out", f.tape(0, 0), LadderForge.BAD);
    }

    private static void outOfAnyByte() {
        due.sentence("2 out: A comes to THE TAPE OUT");
        LadderForge f = ran("0, 255 and 0", 3, row(6, 0, 0, 0, 8, 3), "", 2, 3, 255, 2, 14, 1, 2, 0);
        due.is("0", f.tape(0, 0), 0);
        due.is("255", f.tape(1, 0), 255);
        due.is("0 again", f.tape(2, 0), 0);
    }

    private static void moduloOnAdding() {
        due.sentence("6 add: A becomes A and the byte at n (Numbers modulo 256)");
        int[][] sums = {{255, 1, 0}, {255, 255, 254}, {128, 128, 0}, {0, 0, 0}, {254, 1, 255}, {1, 255, 0}};
        for (int[] sum : sums) {
            leaves(sum[0] + " add " + sum[1], sum[2], 3, sum[0], 6, 5, 0, sum[1]);
        }
    }

    private static void moduloOnTaking() {
        due.sentence("7 sub: A less that (Numbers modulo 256)");
        int[][] rests = {{0, 1, 255}, {0, 255, 1}, {5, 5, 0}, {255, 255, 0}, {255, 0, 255}, {127, 128, 255}};
        for (int[] rest : rests) {
            leaves(rest[0] + " sub " + rest[1], rest[2], 3, rest[0], 7, 5, 0, rest[1]);
        }
    }

    private static void moduloOnPlus() {
        due.sentence("14 plus: A becomes A and n (Numbers modulo 256)");
        int[][] sums = {{255, 1, 0}, {255, 255, 254}, {1, 255, 0}, {0, 0, 0}, {200, 55, 255}};
        for (int[] sum : sums) {
            leaves(sum[0] + " plus " + sum[1], sum[2], 3, sum[0], 14, sum[1], 0);
        }
    }

    /** Sets A, does the order with n 6: whether P became 6. */
    private static void becomes(int a, int order, boolean is) {
        ran("A " + a, 0, row(3, 0, a, 0, is ? 7 : 5, 0), "", 3, a, order, 6, 0, 0, 0);
    }

    private static void ifZero() {
        due.sentence("12 zero: P becomes n, if A is 0");
        becomes(0, 12, true);
        becomes(1, 12, false);
        becomes(128, 12, false);
        becomes(255, 12, false);
        ran("0 by going round", 0, row(4, 0, 0, 0, 8, 0), "", 3, 255, 14, 1, 12, 7, 16, 0);
    }

    private static void ifEnd() {
        due.sentence("13 end: P becomes n, if END is 1");
        becomes(0, 13, false);
        becomes(1, 13, false);
        ran("behind an in of none", 0, row(4, 0, 7, 0, 8, 0), "", 1, 3, 7, 13, 7, 16, 16, 0);
    }

    private static void ifMinus() {
        due.sentence("15 minus: P becomes n, if A is 128 or more");
        becomes(0, 15, false);
        becomes(127, 15, false);
        becomes(128, 15, true);
        becomes(255, 15, true);
    }

    private static void ownBytesChange() {
        due.sentence("5 store: the byte at n becomes A; 9 put: the byte at X becomes A");
        ran("a store over what is done next", 0, row(2, 0, 0, 0, 3, 0), "", 5, 2, 16);
        ran("a put over what is done next", 0, row(5, 0, 0, 6, 7, 0), "", 3, 6, 10, 3, 0, 9, 16);
        LadderForge f = ran("a store over its own n", 0, row(3, 0, 77, 0, 5, 0), "", 3, 77, 5, 3, 0);
        due.is("the n", f.tape(3, 1), 77);
        due.is("the tool stays", f.code(0, 3, 0), 3);
        due.is("so it runs alike again", f.run(0, 1), 0);
    }

    private static void firstAndLastPlace() {
        due.sentence("4 load, 5 store, 8 get, 9 put: the byte at n, the byte at X");
        LadderForge f = ran("store 255 and 0", 0, row(4, 0, 9, 0, 7, 0), "", 3, 9, 5, 255, 5, 0, 0);
        due.is("at 255", f.tape(255, 1), 9);
        due.is("at 0", f.tape(0, 1), 9);
        leaves("load 0", 4, 4, 0, 0);
        leaves("load 255", 0, 3, 7, 4, 255, 0);
        leaves("get at 0", 8, 8, 0);
        leaves("get at 255", 0, 3, 255, 10, 8, 0);
        f = ran("put at 255", 0, row(4, 0, 255, 255, 5, 0), "", 3, 255, 10, 9, 0);
        due.is("what was put", f.tape(255, 1), 255);
        f = ran("put at 0", 0, row(3, 0, 6, 0, 4, 0), "", 3, 6, 9, 0);
        due.is("what was put at 0", f.tape(0, 1), 6);
    }

    private static void byOneOrTwo() {
        due.sentence("those with n go on by two, others by one");
        boolean[] hasN = {false, false, false, true, true, true, true, true,
            false, false, false, true, true, true, true, true};
        for (int order = 1; order < 16; order++) {
            if (order != 11) {
                LadderForge f = new LadderForge();
                Due.tool(f, 0, hasN[order] ? row(3, 1, order, 77, 16) : row(3, 1, order, 16));
                due.is("order " + order + " and no order behind it", f.run(0, 7), -11);
                due.is("order " + order + ": P", f.ran(4), hasN[order] ? 4 : 3);
                due.is("order " + order + ": two are done", f.ran(0), 2);
            }
        }
        ran("jump goes to n alone", 0, row(2, 0, 0, 0, 78, 0), "", 11, 77, 16);
        ran("stop", 0, row(1, 0, 0, 0, 1, 0), "", 0, 16);
    }

    private static void tillStop() {
        due.sentence("A RUN goes on till stop; ran(0): ORDERS done (stop, too)");
        ran("stop alone", 0, row(1, 0, 0, 0, 1, 0), "abc", 0);
        ran("the 0 behind the tool is stop", 0, row(2, 0, 0, 0, 2, 0), "", 10);
        ran("what is behind stop is not done", 0, row(2, 0, 4, 0, 3, 0), "", 3, 4, 0, 2, 2);
    }

    private static void harmOfNoOrder() {
        due.sentence("HARM: 1 a byte that is no ORDER (16 and more)");
        for (int b = 16; b < 256; b++) {
            LadderForge f = new LadderForge();
            Due.tool(f, 0, b);
            due.is("the byte " + b, f.run(0, 7), -11);
            told("the byte " + b, f, 0, 0, 0, 0, 0, 0);
        }
        ran("15 is an order", 0, row(2, 0, 0, 0, 3, 0), "", 15, 16, 0);
        ran("n may be 16 and more", 0, row(2, 0, 255, 0, 3, 0), "", 3, 255, 0);
    }

    private static void harmOfNoOrderStays() {
        due.sentence("What does HARM is not done; P stays there (1)");
        LadderForge f = ran("behind four orders", -11, row(4, 1, 'a', 'a', 4, 2), "a", 1, 10, 2, 2, 16, 0);
        due.is("what came out stays", f.tape(1, 0), 'a');
        due.is("behind it", f.tape(2, 0), LadderForge.BAD);
        f = ran("far behind the tool", -11, row(3, 0, 16, 0, 200, 0), "", 3, 16, 5, 200, 11, 200);
        due.is("the byte stays", f.tape(200, 1), 16);
        ran("at 255", -11, row(3, 0, 255, 0, 255, 0), "", 3, 255, 5, 255, 11, 255);
    }

    private static void harmOfMuchOut() {
        due.sentence("HARM: 2 more than 256 bytes on THE TAPE OUT .. is not done; P stays there");
        LadderForge f = ran("a 257th", -12, row(513, 0, 0, 0, 1, 256), "", 10, 2, 11, 1);
        due.is("the 256th", f.tape(255, 0), 0);
        due.is("no 257th", f.tape(256, 0), LadderForge.BAD);
        LadderForge g = new LadderForge();
        Due.named(g, 0, COUNTS);
        due.is("256 are no HARM", g.run(0, 7), 256);
        told("256 are no HARM", g, 256 * 6, 0, 0, 0, 12, 256);
        due.is("the first of 256", g.tape(0, 0), 0);
        due.is("the last of 256", g.tape(255, 0), 255);
        Due.named(g, 0, COUNTS.replace("stop", "out stop"));
        due.is("256 and one more", g.run(1, 7), -12);
        told("256 and one more", g, 256 * 6 - 1, 0, 0, 0, 11, 256);
    }

    private static void harmOfManyOrders() {
        due.sentence("HARM: 3 more than 5000 ORDERS (the 5001st is not done) .. P stays there");
        ran("a plus as the 5001st", -13, row(5000, 0, 2500 - 9 * 256, 0, 0, 0), "", 14, 1, 11, 0);
        ran("a jump as the 5001st", -13, row(5000, 0, 2500 - 9 * 256, 0, 3, 0), "", 10, 14, 1, 11, 1);
        // 2 orders, then 1666 turns of 3: the 5001st would be the 1667th turn's in
        ran("an in as the 5001st", -13, row(5000, 200, 0, 0, 2, 0), Due.times("x", 200), 10, 10, 1, 10, 11, 2);
    }

    /** An object whose tool 0 does 4999 orders, then what is told. */
    private static LadderForge behind4999(String then) {
        LadderForge f = new LadderForge();
        // 20 orders a turn, but for the last, which goes on at Z without a jump
        Due.named(f, 0, "L: load C plus 255 store C out " + Due.times("to ", 13) + "load C zero Z jump L Z: "
            + then + " C: byte 250");
        return f;
    }

    private static void stopAsTheLast() {
        due.sentence("more than 5000 ORDERS (the 5001st is not done): 5000 are no HARM");
        LadderForge f = behind4999("stop");
        due.is("stop as the 5000th", f.run(0, 7), 250);
        told("stop as the 5000th", f, 5000, 0, 0, 0, 27, 250);
        f = behind4999("to stop");
        due.is("stop as the 5001st", f.run(0, 7), -13);
        told("stop as the 5001st", f, 5000, 0, 0, 0, 27, 250);
    }

    private static void aheadOfAnyRun() {
        due.sentence("Of the latest RUN by run() .. (0 ahead of any); of MEMORY behind it (1; 0 ahead of any)");
        LadderForge f = new LadderForge();
        told("ahead of any", f, 0, 0, 0, 0, 0, 0);
        for (int at = 0; at < 256; at++) {
            due.is("memory " + at, f.tape(at, 1), 0);
        }
        due.is("no byte of a tape", f.tape(0, 0), LadderForge.BAD);
        due.is("ran(-1)", f.ran(-1), LadderForge.BAD);
        due.is("ran(6)", f.ran(6), LadderForge.BAD);
        Due.tool(f, 0, 3, 5, 2, 0);
        f.run(1, 0);
        f.run(0, 8);
        f.build(0, 0);
        f.settles(0, 0);
        f.round(0, 0, 0);
        f.hides(0, 0, 0);
        f.stale();
        told("only run() counts", f, 0, 0, 0, 0, 0, 0);
        due.is("its tape", f.tape(0, 0), LadderForge.BAD);
        due.is("its memory", f.tape(0, 1), 0);
    }

    private static void latestRunByRun() {
        due.sentence("Of the latest RUN by run()");
        LadderForge f = new LadderForge();
        Due.tool(f, 0, 3, 5, 2, 2, 0);
        Due.tool(f, 1, 3, 8, 10, 2, 16);
        due.is("first", f.run(0, 7), 2);
        due.is("refused: no such tool", f.run(2, 7), LadderForge.BAD);
        due.is("refused: no such text", f.run(0, 8), LadderForge.BAD);
        told("the first stays", f, 4, 0, 5, 0, 5, 2);
        due.is("a run with HARM is the latest, too", f.run(1, 7), -11);
        told("a run with HARM", f, 3, 0, 8, 8, 4, 1);
        due.is("its tape", f.tape(0, 0), 8);
        due.is("nothing of the longer tape ahead", f.tape(1, 0), LadderForge.BAD);
        due.is("its memory", f.tape(4, 1), 16);
    }

    private static void tapeBounds() {
        due.sentence("A byte of THE TAPE OUT of that (what = 0), of MEMORY behind it (1). BAD.");
        LadderForge f = ran("two come out", 2, row(4, 0, 6, 0, 5, 2), "", 3, 6, 2, 2, 0);
        int[] wrong = {-1, 2, 256, Integer.MIN_VALUE, Integer.MAX_VALUE};
        for (int at : wrong) {
            due.is("tape(" + at + ", 0)", f.tape(at, 0), LadderForge.BAD);
        }
        due.is("tape(1, 0)", f.tape(1, 0), 6);
        int[] none = {-1, 256, Integer.MIN_VALUE, Integer.MAX_VALUE};
        for (int at : none) {
            due.is("tape(" + at + ", 1)", f.tape(at, 1), LadderForge.BAD);
            due.is("tape(0, what)", f.tape(0, at == 256 ? 2 : at), LadderForge.BAD);
        }
        due.is("tape(0, 1)", f.tape(0, 1), 3);
        due.is("tape(255, 1)", f.tape(255, 1), 0);
    }
}
