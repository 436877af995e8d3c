/** Promises 6 to 10: pairs, named, build, tool, code. */
public final class ToolsTest {
    private static final Due due = new Due();

    public static void main(String[] args) {
        pairs();
        pairFaults();
        everyWord();
        items();
        namedFaults();
        building();
        asking();
        full();
        due.end();
    }

    private static void bytes(String of, LadderForge f, int tool, int... want) {
        due.is(of + ": how many bytes", f.tool(tool, 0), want.length);
        for (int at = 0; at < want.length; at++) {
            due.is(of + ": byte " + at, f.code(tool, at, 0), want[at]);
        }
    }

    private static void led(String of, LadderForge f, int tool, int... want) {
        for (int at = 0; at < want.length; at++) {
            due.is(of + ": led " + at, f.code(tool, at, 1), want[at]);
        }
    }

    private static void pairs() {
        LadderForge f = new LadderForge();
        Due.put(f, 2, " 0f#a 00\n\nff a0#");
        due.is("pairs", f.pairs(2), 0);
        bytes("pairs", f, 0, 0x0f, 0xff, 0xa0);
        led("pairs", f, 0, 1, 10, 13);
        Due.put(f, 2, "0189abcdef");
        due.is("pairs side by side", f.pairs(2), 1);
        bytes("side by side", f, 1, 1, 0x89, 0xab, 0xcd, 0xef);
        led("side by side", f, 1, 0, 2, 4, 6, 8);
        Due.put(f, 0, Due.times("7c", 100));
        due.is("pairs of 200 bytes", f.pairs(0), 2);
        due.is("100 bytes", f.tool(2, 0), 100);
        due.is("the last one is led", f.code(2, 99, 1), 198);
        due.is("the first tool stays as it was", f.code(0, 1, 0), 0xff);
    }

    private static void pairFault(String text, int fault) {
        LadderForge f = new LadderForge();
        Due.put(f, 5, text);
        due.is("pairs of '" + text + "'", f.pairs(5), -10 - fault);
        due.is("no tool of '" + text + "'", f.count(0), 0);
    }

    private static void pairFaults() {
        pairFault("", 0);
        pairFault(" ", 1);
        pairFault("#00\n", 4);
        pairFault("0", 1);
        pairFault("00 1", 4);
        pairFault("00 1 ", 4);
        pairFault("0 0", 1);
        pairFault("0\n0", 1);
        pairFault("0#\n0", 1);
        pairFault("0G", 1);
        pairFault("0g", 1);
        pairFault("0F", 1);
        pairFault("F0", 0);
        pairFault("g0", 0);
        pairFault("00\t00", 2);
        pairFault("00\r\n00", 2);
        pairFault("00 /0", 3);
        pairFault("00 :0", 3);
        pairFault("00 `0", 3);
        pairFault("00" + (char) 0, 2);
        pairFault("00" + (char) 255, 2);
        pairFault("0000 # x\n0 1", 10);
        pairFault(Due.times("0", 199), 199);
        LadderForge f = new LadderForge();
        due.is("pairs(-1)", f.pairs(-1), LadderForge.BAD);
        due.is("pairs(8)", f.pairs(8), LadderForge.BAD);
    }

    private static void everyWord() {
        String[] words = {"stop", "in", "out", "set", "load", "store", "add", "sub",
            "get", "put", "to", "jump", "zero", "end", "plus", "minus"};
        boolean[] hasN = {false, false, false, true, true, true, true, true,
            false, false, false, true, true, true, true, true};
        for (int order = 0; order < 16; order++) {
            LadderForge f = new LadderForge();
            Due.put(f, 0, words[order] + (hasN[order] ? " 77" : ""));
            due.is("named of " + words[order], f.named(0), 0);
            if (hasN[order]) {
                bytes(words[order], f, 0, order, 77);
                led(words[order], f, 0, 0, words[order].length() + 1);
                namedFault(words[order], words[order].length());
                namedFault(words[order] + " in", words[order].length() + 1);
            } else {
                bytes(words[order], f, 0, order);
                led(words[order], f, 0, 0);
                namedFault(words[order] + " 77", words[order].length() + 1);
            }
            namedFault(words[order] + "s", 0);
        }
    }

    private static void items() {
        LadderForge f = new LadderForge();
        due.is("byte", Due.named(f, 0, "byte 255byte 0byte A in A:"), 0);
        bytes("byte", f, 0, 255, 0, 4, 1);
        led("byte", f, 0, 5, 13, 19, 21);
        due.is("places", Due.named(f, 1, "#z\nQ:jump Z\n set Q add R Z:R:stop# Z:"), 1);
        bytes("places", f, 1, 11, 6, 3, 0, 6, 6, 0);
        led("places", f, 1, 5, 10, 13, 17, 19, 23, 29);
        due.is("without blanks", Due.named(f, 2, "A:setA"), 2);
        bytes("without blanks", f, 2, 3, 0);
        led("without blanks", f, 2, 2, 5);
        due.is("n behind a remark", Due.named(f, 3, "plus# n:\n\n 9 "), 3);
        bytes("n behind a remark", f, 3, 14, 9);
        led("n behind a remark", f, 3, 0, 11);
        StringBuilder all = new StringBuilder();
        for (char letter = 'A'; letter <= 'Z'; letter++) {
            all.append(letter).append(":to ");
        }
        due.is("all letters", Due.named(f, 4, all + "jump Z"), 4);
        due.is("Z's place", f.code(4, 27, 0), 25);
        due.is("a letter as the first byte", Due.named(f, 6, "byte B in B:"), 5);
        bytes("a letter as the first byte", f, 5, 2, 1);
        namedFault("byte B in", 5);
        due.is("100 bytes of names", Due.named(f, 5, Due.times("set1", 50)), 6);
        due.is("100 bytes", f.tool(6, 0), 100);
        due.is("by NAMED", f.tool(6, 1), 1);
    }

    private static void namedFault(String text, int fault) {
        LadderForge f = new LadderForge();
        Due.put(f, 0, text);
        due.is("named of '" + text + "'", f.named(0), -10 - fault);
        due.is("no tool of '" + text + "'", f.count(0), 0);
    }

    private static void namedFaults() {
        namedFault("", 0);
        namedFault(" # in\n", 6);
        namedFault("A:", 2);
        namedFault("A: ", 3);
        namedFault("in A", 4);
        namedFault("in A # :", 8);
        namedFault("A :in", 2);
        namedFault("A#\n:in", 3);
        namedFault("A in", 2);
        namedFault("AB:in", 1);
        namedFault("A 5", 2);
        namedFault("A$", 1);
        namedFault("A::in", 2);
        namedFault("in A: in A: in", 9);
        namedFault("A: in A out", 6);
        namedFault(":in", 0);
        namedFault("in : A:", 3);
        namedFault("set :", 4);
        namedFault("set A: 5", 5);
        namedFault("5 in", 0);
        namedFault("in\t", 2);
        namedFault("in\rin", 2);
        namedFault("in {", 3);
        namedFault("in [", 3);
        namedFault("in @", 3);
        namedFault("in " + (char) 200, 3);
        namedFault("inn", 0);
        namedFault("i", 0);
        namedFault("stor 5", 0);
        namedFault("storee 5", 0);
        namedFault("In", 1);
        namedFault("set 256", 4);
        namedFault("set 1000", 4);
        namedFault("set 4294967296", 4);
        namedFault("set 00", 4);
        namedFault("set 01", 4);
        namedFault("set 0255", 4);
        namedFault("set -1", 4);
        namedFault("set 1 2", 6);
        namedFault("byte", 4);
        namedFault("byte in", 5);
        namedFault("set B", 4);
        namedFault("set B set C C:", 4);
        namedFault("set C set B C: set D", 10);
        namedFault("set B set 256", 10);
        namedFault("set B set", 9);
        LadderForge f = new LadderForge();
        due.is("named(-1)", f.named(-1), LadderForge.BAD);
        due.is("named(8)", f.named(8), LadderForge.BAD);
        due.is("set 255", Due.named(f, 0, "set 255"), 0);
        due.is("set 0", Due.named(f, 0, "set 0"), 1);
    }

    private static void building() {
        LadderForge f = new LadderForge();
        // puts 7 out, then each byte read twice: 0 of none, then how many were read less 1
        Due.named(f, 0, "set 7 out L: in end Z out out jump L Z: stop");
        Due.put(f, 3, "xyz");
        due.is("build", f.build(0, 3), 1);
        bytes("built", f, 1, 7, 'x', 'x', 'y', 'y', 'z', 'z');
        led("built", f, 1, 0, 0, 0, 1, 1, 2, 2);
        due.is("how", f.tool(1, 1), 2);
        due.is("from which text", f.tool(1, 2), 3);
        due.is("by which tool", f.tool(1, 3), 0);
        due.is("by HARM 1", f.build(1, 0), LadderForge.STATE);
        int silent = Due.tool(f, 4, 0);
        due.is("nothing came", f.build(silent, 3), LadderForge.STATE);
        int loud = Due.tool(f, 4, 2, 11, 0);
        due.is("by HARM 2", f.build(loud, 3), LadderForge.STATE);
        int endless = Due.tool(f, 4, 2, 11, 1);
        due.is("by HARM 3", f.build(endless, 3), LadderForge.STATE);
        due.is("STATE makes none", f.count(0), 5);
        due.is("build(5, 3)", f.build(5, 3), LadderForge.BAD);
        due.is("build(-1, 3)", f.build(-1, 3), LadderForge.BAD);
        due.is("build(0, 8)", f.build(0, 8), LadderForge.BAD);
        due.is("build(0, -1)", f.build(0, -1), LadderForge.BAD);
        // 256 bytes: counts down from 0 to 0
        int most = Due.named(f, 5, "L: load C out plus 255 store C zero Z jump L Z: stop C: byte 0");
        due.is("a tool of 256 bytes", f.build(most, 7), 6);
        due.is("256 bytes", f.tool(6, 0), 256);
        due.is("the last of 256", f.code(6, 255, 0), 1);
        due.is("behind the last", f.code(6, 256, 0), LadderForge.BAD);
        due.is("led, nothing read", f.code(6, 255, 1), 0);
        int past = Due.named(f, 6, "in in in out stop");
        Due.put(f, 7, "qr");
        int late = f.build(past, 7);
        bytes("put out behind the end", f, late, 0);
        led("put out behind the end", f, late, 1);
    }

    private static void asking() {
        LadderForge f = new LadderForge();
        int pairs = Due.tool(f, 6, 2, 0);
        int built = f.build(pairs, 0);
        due.is("by PAIRS", f.tool(pairs, 1), 0);
        due.is("its text", f.tool(pairs, 2), 6);
        due.is("no builder", f.tool(pairs, 3), LadderForge.NONE);
        due.is("not checked", f.tool(pairs, 4), 0);
        f.check(pairs, 1);
        due.is("checked", f.tool(pairs, 4), 1);
        due.is("what was built is not", f.tool(built, 4), 0);
        due.is("builder", f.tool(built, 3), pairs);
        due.is("tool(0, 5)", f.tool(0, 5), LadderForge.BAD);
        due.is("tool(0, -1)", f.tool(0, -1), LadderForge.BAD);
        due.is("tool(2, 0)", f.tool(2, 0), LadderForge.BAD);
        due.is("tool(-1, 0)", f.tool(-1, 0), LadderForge.BAD);
        due.is("code(0, 2, 0)", f.code(0, 2, 0), LadderForge.BAD);
        due.is("code(0, 2, 1)", f.code(0, 2, 1), LadderForge.BAD);
        due.is("code(0, -1, 0)", f.code(0, -1, 0), LadderForge.BAD);
        due.is("code(0, 0, 2)", f.code(0, 0, 2), LadderForge.BAD);
        due.is("code(0, 0, -1)", f.code(0, 0, -1), LadderForge.BAD);
        due.is("code(2, 0, 0)", f.code(2, 0, 0), LadderForge.BAD);
        due.is("code(-1, 0, 0)", f.code(-1, 0, 0), LadderForge.BAD);
    }

    private static void full() {
        LadderForge f = new LadderForge();
        int silent = Due.tool(f, 0, 0);
        for (int i = 1; i < 12; i++) {
            due.is("tool " + i, Due.tool(f, 0, 2, 0), i);
        }
        due.is("a 13th by pairs", f.pairs(0), LadderForge.FULL);
        due.is("a 13th built", f.build(1, 0), LadderForge.FULL);
        due.is("STATE ahead of FULL", f.build(silent, 0), LadderForge.STATE);
        Due.put(f, 1, "in");
        due.is("a 13th by named", f.named(1), LadderForge.FULL);
        due.is("a fault ahead of FULL", f.pairs(1), -10);
        due.is("another fault ahead of FULL", f.named(0), -10);
        due.is("BAD ahead of FULL", f.build(12, 0), LadderForge.BAD);
        due.is("12 tools", f.count(0), 12);
    }
}
