import java.util.ArrayList;
import java.util.List;

/** "Refused, and nothing changes, the first of these: BAD .., STATE (as told), FULL": all that can be asked is compared. */
public final class EdgesRefusedTest {
    private static final int BAD = LadderForge.BAD, STATE = LadderForge.STATE, FULL = LadderForge.FULL;
    private static final int MIN = Integer.MIN_VALUE, MAX = Integer.MAX_VALUE;
    private static final int MOST_CALLS = 512, PARTS = 6;
    private static final Due due = new Due();

    private interface Asked {
        long ask(LadderForge f);
    }

    private record Refused(String call, int want, Asked asked) { }

    public static void main(String[] args) {
        due.sentence("Refused, and nothing changes, the first of these: BAD, STATE, FULL");
        changesNothing("few", 2, bad(2));
        changesNothing("few", 2, statesOfFew());
        changesNothing("full", 12, bad(12));
        changesNothing("full", 12, fulls());
        due.end();
    }

    /** Tool 0 puts 5 and 6 out; all others are BUILT by it but for tool 1, by NAMED; one RUN, one CHECKED. */
    private static LadderForge state(int many) {
        LadderForge f = new LadderForge();
        Due.tool(f, 0, 3, 5, 2, 14, 1, 2, 0);
        Due.named(f, 1, "in out A: set A byte 200");
        for (int i = 2; i < many; i++) {
            f.build(0, 2);
        }
        Due.put(f, 2, "abc");
        Due.put(f, 7, "0");
        for (int i = 0; i < many; i++) {
            f.edition(i == 0 ? 0 : 1 << i, 3 << i + 1);
        }
        f.check(0, 1);
        f.run(0, 2);
        f.weight(4, 1);
        Due.type(f, many == 12 ? Due.times("typed", 40) : "typed");
        return f;
    }

    private static void changesNothing(String of, int many, List<Refused> all) {
        List<List<Long>> before = new ArrayList<>();
        for (int part = 0; part < PARTS; part++) {
            before.add(look(state(many), part));
        }
        for (Refused refused : all) {
            for (int part = 0; part < PARTS; part++) {
                LadderForge f = state(many);
                due.is(of + ": " + refused.call, refused.asked.ask(f), refused.want);
                due.is(of + ": nothing changes by " + refused.call + ", part " + part,
                    look(f, part).equals(before.get(part)) ? 0 : 1, 0);
            }
        }
    }

    /** All that can be asked of an object, in parts, for it has 512 calls alone. */
    private static List<Long> look(LadderForge f, int part) {
        List<Long> seen = new ArrayList<>();
        switch (part) {
            case 0: counts(f, seen); break;
            case 1: tools(f, seen); break;
            case 2: texts(f, seen); break;
            case 3: runs(f, seen); break;
            case 4: ladders(f, seen); break;
            default: bytes(f, seen); break;
        }
        due.is("calls of part " + part, seen.size() < MOST_CALLS - 100 ? 1 : 0, 1);
        return seen;
    }

    private static void counts(LadderForge f, List<Long> seen) {
        for (int what = 0; what < 5; what++) {
            seen.add((long) f.count(what));
        }
        seen.add(f.trace());
        seen.add((long) f.stale());
        seen.add((long) f.least((1 << f.count(0)) - 1));
        // the next tool and the next edition
        seen.add((long) f.pairs(0));
        seen.add((long) f.named(1));
        seen.add((long) f.build(0, 2));
        seen.add((long) f.edition(0, 0));
        seen.add((long) f.text(3));
        for (int at = 0; at < 200; at++) {
            seen.add((long) f.read(3, at));
        }
    }

    private static void tools(LadderForge f, List<Long> seen) {
        for (int tool = 0; tool < 12; tool++) {
            for (int what = 0; what < 5; what++) {
                seen.add((long) f.tool(tool, what));
            }
            for (int kind = 0; kind < 6; kind++) {
                seen.add((long) f.weight(kind, tool));
            }
            seen.add((long) f.rebuilt(tool));
            seen.add((long) f.sealed(tool));
            seen.add((long) f.chain(tool, -1));
            seen.add((long) f.chain(tool, 1));
            seen.add((long) f.settles(tool, 2));
            seen.add((long) f.same(0, tool));
            seen.add((long) f.round(0, tool, 2));
            seen.add((long) f.hides(tool, 0, 2));
        }
    }

    private static void texts(LadderForge f, List<Long> seen) {
        for (int i = 0; i < 8; i++) {
            for (int at = 0; at < 30; at++) {
                seen.add((long) f.read(i, at));
            }
        }
    }

    private static void runs(LadderForge f, List<Long> seen) {
        for (int what = 0; what < 6; what++) {
            seen.add((long) f.ran(what));
        }
        for (int at = 0; at < 4; at++) {
            seen.add((long) f.tape(at, 0));
        }
        for (int at = 0; at < 256; at++) {
            seen.add((long) f.tape(at, 1));
        }
    }

    private static void ladders(LadderForge f, List<Long> seen) {
        for (int from = 0; from < 12; from++) {
            for (int to = 0; to < 12; to++) {
                seen.add((long) f.ladder(from, to, -1));
                seen.add((long) f.needed(from, to, 0));
            }
        }
    }

    private static void bytes(LadderForge f, List<Long> seen) {
        for (int tool = 0; tool < 12; tool++) {
            for (int at = 0; at < 8; at++) {
                seen.add((long) f.code(tool, at, 0));
                seen.add((long) f.code(tool, at, 1));
            }
        }
    }

    private static void add(List<Refused> all, String call, int want, Asked asked) {
        all.add(new Refused(call, want, asked));
    }

    /** Each number of each call below, above and far from what it may be. */
    private static List<Refused> bad(int none) {
        List<Refused> all = new ArrayList<>();
        for (int far : new int[] {-1, MIN, MAX, none}) {
            badTools(all, far);
            badEditions(all, far);
        }
        for (int far : new int[] {-1, MIN, MAX, 8}) {
            badTexts(all, far);
        }
        for (int far : new int[] {-1, -2, MIN, MAX, 65536}) {
            badWhats(all, far);
        }
        for (int set : new int[] {1 << none, (1 << none) + 1, -1, MIN, MAX}) {
            add(all, "least(" + set + ")", BAD, f -> f.least(set));
        }
        for (int n : new int[] {0, -1, 9, MIN, MAX}) {
            add(all, "type(1, " + n + ")", BAD, f -> f.type(1, n));
        }
        nextToGood(all);
        return all;
    }

    private static void badTools(List<Refused> all, int tool) {
        add(all, "build(" + tool + ", 0)", BAD, f -> f.build(tool, 0));
        add(all, "tool(" + tool + ", 0)", BAD, f -> f.tool(tool, 0));
        add(all, "code(" + tool + ", 0, 0)", BAD, f -> f.code(tool, 0, 0));
        add(all, "run(" + tool + ", 0)", BAD, f -> f.run(tool, 0));
        add(all, "rebuilt(" + tool + ")", BAD, f -> f.rebuilt(tool));
        add(all, "settles(" + tool + ", 0)", BAD, f -> f.settles(tool, 0));
        add(all, "round(" + tool + ", 0, 0)", BAD, f -> f.round(tool, 0, 0));
        add(all, "round(0, " + tool + ", 0)", BAD, f -> f.round(0, tool, 0));
        add(all, "hides(" + tool + ", 0, 0)", BAD, f -> f.hides(tool, 0, 0));
        add(all, "hides(0, " + tool + ", 0)", BAD, f -> f.hides(0, tool, 0));
        add(all, "check(" + tool + ", 0)", BAD, f -> f.check(tool, 0));
        add(all, "chain(" + tool + ", 0)", BAD, f -> f.chain(tool, 0));
        add(all, "sealed(" + tool + ")", BAD, f -> f.sealed(tool));
        add(all, "same(" + tool + ", 0)", BAD, f -> f.same(tool, 0));
        add(all, "same(0, " + tool + ")", BAD, f -> f.same(0, tool));
        add(all, "weight(0, " + tool + ")", BAD, f -> f.weight(0, tool));
    }

    private static void badEditions(List<Refused> all, int edition) {
        add(all, "ladder(" + edition + ", 0, 0)", BAD, f -> f.ladder(edition, 0, 0));
        add(all, "ladder(0, " + edition + ", 0)", BAD, f -> f.ladder(0, edition, 0));
        add(all, "needed(" + edition + ", 0, 0)", BAD, f -> f.needed(edition, 0, 0));
        add(all, "needed(0, " + edition + ", 0)", BAD, f -> f.needed(0, edition, 0));
    }

    private static void badTexts(List<Refused> all, int text) {
        add(all, "text(" + text + ")", BAD, f -> f.text(text));
        add(all, "read(" + text + ", 0)", BAD, f -> f.read(text, 0));
        add(all, "pairs(" + text + ")", BAD, f -> f.pairs(text));
        add(all, "named(" + text + ")", BAD, f -> f.named(text));
        add(all, "build(0, " + text + ")", BAD, f -> f.build(0, text));
        add(all, "run(0, " + text + ")", BAD, f -> f.run(0, text));
        add(all, "settles(0, " + text + ")", BAD, f -> f.settles(0, text));
        add(all, "round(0, 0, " + text + ")", BAD, f -> f.round(0, 0, text));
        add(all, "hides(0, 0, " + text + ")", BAD, f -> f.hides(0, 0, text));
    }

    private static void badWhats(List<Refused> all, int what) {
        add(all, "read(0, " + what + ")", BAD, f -> f.read(0, what));
        add(all, "tool(0, " + what + ")", BAD, f -> f.tool(0, what));
        add(all, "code(0, " + what + ", 0)", BAD, f -> f.code(0, what, 0));
        add(all, "code(0, " + what + ", 1)", BAD, f -> f.code(0, what, 1));
        add(all, "code(0, 0, " + what + ")", BAD, f -> f.code(0, 0, what));
        add(all, "ran(" + what + ")", BAD, f -> f.ran(what));
        add(all, "tape(" + what + ", 0)", BAD, f -> f.tape(what, 0));
        add(all, "tape(" + what + ", 1)", BAD, f -> f.tape(what, 1));
        add(all, "tape(0, " + what + ")", BAD, f -> f.tape(0, what));
        add(all, "check(0, " + what + ")", BAD, f -> f.check(0, what));
        add(all, "edition(" + what + ", 0)", BAD, f -> f.edition(what, 0));
        add(all, "edition(0, " + what + ")", BAD, f -> f.edition(0, what));
        add(all, "needed(0, 1, " + what + ")", BAD, f -> f.needed(0, 1, what));
        add(all, "weight(" + what + ", 0)", BAD, f -> f.weight(what, 0));
        add(all, "count(" + what + ")", BAD, f -> f.count(what));
        if (what != -1) {
            add(all, "chain(0, " + what + ")", BAD, f -> f.chain(0, what));
        }
        if (what < -1) {
            add(all, "ladder(0, 0, " + what + ")", BAD, f -> f.ladder(0, 0, what));
        }
    }

    /** The least number that is too large, where it is another for each call. */
    private static void nextToGood(List<Refused> all) {
        add(all, "read(2, 3)", BAD, f -> f.read(2, 3));
        add(all, "read(3, 0)", BAD, f -> f.read(3, 0));
        add(all, "tool(0, 5)", BAD, f -> f.tool(0, 5));
        add(all, "code(0, 7, 0)", BAD, f -> f.code(0, 7, 0));
        add(all, "code(0, 0, 2)", BAD, f -> f.code(0, 0, 2));
        add(all, "ran(6)", BAD, f -> f.ran(6));
        add(all, "tape(2, 0)", BAD, f -> f.tape(2, 0));
        add(all, "tape(256, 1)", BAD, f -> f.tape(256, 1));
        add(all, "tape(0, 2)", BAD, f -> f.tape(0, 2));
        add(all, "check(0, 2)", BAD, f -> f.check(0, 2));
        add(all, "check(1, 2)", BAD, f -> f.check(1, 2));
        add(all, "chain(0, 1)", BAD, f -> f.chain(0, 1));
        add(all, "needed(0, 1, 2)", BAD, f -> f.needed(0, 1, 2));
        add(all, "weight(6, 0)", BAD, f -> f.weight(6, 0));
        add(all, "count(5)", BAD, f -> f.count(5));
        // answers that are no refusal and change nothing either
        add(all, "pairs(7), with a FAULT", -11, f -> f.pairs(7));
        add(all, "named(2), with a FAULT", -10, f -> f.named(2));
        add(all, "ladder(1, 0, 9)", LadderForge.NONE, f -> f.ladder(1, 0, 9));
        add(all, "needed(0, 0, 1)", LadderForge.NONE, f -> f.needed(0, 0, 1));
    }

    private static List<Refused> statesOfFew() {
        List<Refused> all = new ArrayList<>();
        add(all, "check(1, 0)", STATE, f -> f.check(1, 0));
        add(all, "check(1, 1)", STATE, f -> f.check(1, 1));
        // tool 1 does HARM 1 at its last byte, and what tool 0 builds is HARM or silent as well
        add(all, "build(1, 2)", STATE, f -> f.build(1, 2));
        add(all, "round(0, 1, 2)", STATE, f -> f.round(0, 1, 2));
        add(all, "hides(1, 0, 2)", STATE, f -> f.hides(1, 0, 2));
        add(all, "settles(1, 2)", LadderForge.NONE, f -> f.settles(1, 2));
        return all;
    }

    private static List<Refused> fulls() {
        List<Refused> all = new ArrayList<>();
        add(all, "type(1, 1)", FULL, f -> f.type(1, 1));
        add(all, "type(1, 8)", FULL, f -> f.type(1, 8));
        add(all, "pairs(0)", FULL, f -> f.pairs(0));
        add(all, "named(1)", FULL, f -> f.named(1));
        add(all, "build(0, 2)", FULL, f -> f.build(0, 2));
        add(all, "edition(0, 0)", FULL, f -> f.edition(0, 0));
        // the first of these
        add(all, "type(1, 9)", BAD, f -> f.type(1, 9));
        add(all, "pairs(8)", BAD, f -> f.pairs(8));
        add(all, "named(-1)", BAD, f -> f.named(-1));
        add(all, "build(12, 2)", BAD, f -> f.build(12, 2));
        add(all, "build(1, 8)", BAD, f -> f.build(1, 8));
        add(all, "build(1, 2)", STATE, f -> f.build(1, 2));
        add(all, "edition(0, 65536)", BAD, f -> f.edition(0, 65536));
        add(all, "check(11, 0)", STATE, f -> f.check(11, 0));
        add(all, "check(11, 2)", BAD, f -> f.check(11, 2));
        return all;
    }
}
