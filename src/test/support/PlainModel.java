import java.util.ArrayList;
import java.util.Arrays;
import java.util.HashMap;
import java.util.List;
import java.util.Map;
import java.util.regex.Matcher;
import java.util.regex.Pattern;

/** The document once more, written with the Java library and with no thought for speed. */
final class PlainModel {
    static final int BAD = -1, STATE = -2, FULL = -3, NONE = -9;

    record Made(List<Integer> bytes, List<Integer> led, int fault) { }

    record Ran(List<Integer> out, List<Integer> led, int harm, int[] told, int[] memory) {
        boolean builds() {
            return harm == 0 && !out.isEmpty();
        }
    }

    static final class Tool {
        List<Integer> bytes;
        List<Integer> led;
        int how;
        int text;
        int builder;
        boolean checked;
    }

    private static final Pattern GAP = Pattern.compile("(?:[ \n]|#[^\n]*)*");
    private static final Pattern TOKEN = Pattern.compile("[A-Z]|:|[a-z]+|[0-9]+");
    private static final List<String> WORDS = List.of("stop", "in", "out", "set", "load", "store", "add", "sub",
        "get", "put", "to", "jump", "zero", "end", "plus", "minus");
    private static final List<String> ALONE = List.of("stop", "in", "out", "get", "put", "to");

    private String typed = "";
    private final String[] texts = {"", "", "", "", "", "", "", ""};
    private final List<Tool> tools = new ArrayList<>();
    private final List<int[]> editions = new ArrayList<>();
    private Ran latest = new Ran(List.of(), List.of(), 0, new int[6], new int[256]);
    private long trace = 0;

    private boolean noText(int i) {
        return i < 0 || i > 7;
    }

    private boolean noTool(int i) {
        return i < 0 || i >= tools.size();
    }

    int type(long v, int n) {
        if (n < 1 || n > 8) {
            return BAD;
        }
        if (typed.length() + n > 200) {
            return FULL;
        }
        StringBuilder more = new StringBuilder();
        for (int i = 0; i < n; i++) {
            more.insert(0, (char) Math.floorMod(v, 256L));
            v = Math.floorDiv(v, 256L);
        }
        typed += more;
        return typed.length();
    }

    int clear() {
        int had = typed.length();
        typed = "";
        return had;
    }

    int text(int i) {
        if (noText(i)) {
            return BAD;
        }
        texts[i] = typed;
        return clear();
    }

    int read(int i, int at) {
        return noText(i) || at < 0 || at >= texts[i].length() ? BAD : texts[i].charAt(at);
    }

    private static int pastGap(String text, int from) {
        Matcher gap = GAP.matcher(text);
        gap.region(from, text.length());
        return gap.lookingAt() ? gap.end() : from;
    }

    private static Made byPairs(String text) {
        List<Integer> bytes = new ArrayList<>();
        List<Integer> led = new ArrayList<>();
        int at = pastGap(text, 0);
        while (at < text.length()) {
            for (int i = at; i < at + 2; i++) {
                if (i == text.length() || "0123456789abcdef".indexOf(text.charAt(i)) < 0) {
                    return new Made(bytes, led, i);
                }
            }
            bytes.add(Integer.parseInt(text.substring(at, at + 2), 16));
            led.add(at);
            at = pastGap(text, at + 2);
        }
        return new Made(bytes, led, bytes.isEmpty() ? text.length() : NONE);
    }

    private static Made byNames(String text) {
        List<Integer> bytes = new ArrayList<>();
        List<Integer> led = new ArrayList<>();
        Map<String, Integer> places = new HashMap<>();
        Map<Integer, String> used = new HashMap<>();
        String ahead = "";
        boolean wantsN = false;
        int end = 0;
        for (int at = pastGap(text, 0); at < text.length(); at = pastGap(text, end)) {
            Matcher token = TOKEN.matcher(text);
            token.region(at, text.length());
            if (!token.lookingAt()) {
                return new Made(bytes, led, at);
            }
            String is = token.group();
            boolean fits;
            if (!ahead.isEmpty()) {
                fits = is.equals(":") && at == end;
                ahead = "";
            } else if (wantsN) {
                boolean number = is.matches("0|[1-9][0-9]{0,2}") && Integer.parseInt(is) < 256;
                fits = number || is.matches("[A-Z]");
                if (!number) {
                    used.put(bytes.size(), is);
                }
                bytes.add(number ? Integer.parseInt(is) : 0);
                led.add(at);
                wantsN = false;
            } else if (is.matches("[A-Z]")) {
                fits = places.putIfAbsent(is, bytes.size()) == null;
                ahead = is;
            } else {
                fits = WORDS.contains(is) || is.equals("byte");
                wantsN = !ALONE.contains(is);
                if (WORDS.contains(is)) {
                    bytes.add(WORDS.indexOf(is));
                    led.add(at);
                }
            }
            if (!fits) {
                return new Made(bytes, led, at);
            }
            end = token.end();
        }
        if (!ahead.isEmpty() || wantsN || bytes.isEmpty()) {
            return new Made(bytes, led, text.length());
        }
        for (int i = 0; i < bytes.size(); i++) {
            if (used.containsKey(i)) {
                if (!places.containsKey(used.get(i))) {
                    return new Made(bytes, led, led.get(i));
                }
                bytes.set(i, places.get(used.get(i)));
            }
        }
        return new Made(bytes, led, NONE);
    }

    private int keep(List<Integer> bytes, List<Integer> led, int how, int text, int builder) {
        if (tools.size() == 12) {
            return FULL;
        }
        Tool tool = new Tool();
        tool.bytes = List.copyOf(bytes);
        tool.led = List.copyOf(led);
        tool.how = how;
        tool.text = text;
        tool.builder = builder;
        tools.add(tool);
        return tools.size() - 1;
    }

    private int make(int how, int i) {
        if (noText(i)) {
            return BAD;
        }
        Made made = how == 0 ? byPairs(texts[i]) : byNames(texts[i]);
        return made.fault != NONE ? -10 - made.fault : keep(made.bytes, made.led, how, i, NONE);
    }

    int pairs(int i) {
        return make(0, i);
    }

    int named(int i) {
        return make(1, i);
    }

    static Ran go(List<Integer> code, String tape) {
        int[] m = new int[256];
        for (int i = 0; i < code.size(); i++) {
            m[i] = code.get(i);
        }
        List<Integer> out = new ArrayList<>();
        List<Integer> led = new ArrayList<>();
        int a = 0, x = 0, p = 0, done = 0, taken = 0, harm = 0;
        boolean end = false, on = true;
        while (on) {
            int o = m[p], n = m[(p + 1) % 256];
            if (o > 15) {
                harm = 1;
                break;
            }
            if (done == 5000) {
                harm = 3;
                break;
            }
            if (o == 2 && out.size() == 256) {
                harm = 2;
                break;
            }
            done++;
            p = (p + (ALONE.contains(WORDS.get(o)) ? 1 : 2)) % 256;
            if (o == 0) {
                on = false;
            } else if (o == 1) {
                end |= taken == tape.length();
                a = taken < tape.length() ? tape.charAt(taken++) : 0;
            } else if (o == 2) {
                out.add(a);
                led.add(taken == 0 ? 0 : taken - 1);
            } else if (o == 3) {
                a = n;
            } else if (o == 4) {
                a = m[n];
            } else if (o == 5) {
                m[n] = a;
            } else if (o == 6) {
                a = (a + m[n]) % 256;
            } else if (o == 7) {
                a = (a + 256 - m[n]) % 256;
            } else if (o == 8) {
                a = m[x];
            } else if (o == 9) {
                m[x] = a;
            } else if (o == 10) {
                x = a;
            } else if (o == 14) {
                a = (a + n) % 256;
            } else if (o == 11 || o == 12 && a == 0 || o == 13 && end || o == 15 && a > 127) {
                p = n;
            }
        }
        return new Ran(out, led, harm, new int[] {done, taken, a, x, p, out.size()}, m);
    }

    int build(int tool, int i) {
        if (noTool(tool) || noText(i)) {
            return BAD;
        }
        Ran ran = go(tools.get(tool).bytes, texts[i]);
        return ran.builds() ? keep(ran.out, ran.led, 2, i, tool) : STATE;
    }

    int tool(int i, int what) {
        if (noTool(i) || what < 0 || what > 4) {
            return BAD;
        }
        Tool t = tools.get(i);
        return new int[] {t.bytes.size(), t.how, t.text, t.builder, t.checked ? 1 : 0}[what];
    }

    int code(int tool, int at, int what) {
        if (noTool(tool) || at < 0 || at >= tools.get(tool).bytes.size() || what < 0 || what > 1) {
            return BAD;
        }
        return (what == 0 ? tools.get(tool).bytes : tools.get(tool).led).get(at);
    }

    int run(int tool, int i) {
        if (noTool(tool) || noText(i)) {
            return BAD;
        }
        latest = go(tools.get(tool).bytes, texts[i]);
        return latest.harm > 0 ? -10 - latest.harm : latest.out.size();
    }

    int ran(int what) {
        return what < 0 || what > 5 ? BAD : latest.told[what];
    }

    int tape(int at, int what) {
        if (what == 0 && at >= 0 && at < latest.out.size()) {
            return latest.out.get(at);
        }
        return what == 1 && at >= 0 && at < 256 ? latest.memory[at] : BAD;
    }

    private static int unlike(List<Integer> a, List<Integer> b) {
        if (a.equals(b)) {
            return 0;
        }
        int at = 0;
        while (at < a.size() && at < b.size() && a.get(at).equals(b.get(at))) {
            at++;
        }
        return 1 + at;
    }

    int rebuilt(int tool) {
        if (noTool(tool)) {
            return BAD;
        }
        Tool t = tools.get(tool);
        if (t.how == 2) {
            Ran ran = go(tools.get(t.builder).bytes, texts[t.text]);
            if (ran.harm > 0) {
                return -10 - ran.harm;
            }
            return ran.out.isEmpty() ? -20 : unlike(t.bytes, ran.out);
        }
        Made made = t.how == 0 ? byPairs(texts[t.text]) : byNames(texts[t.text]);
        return made.fault == NONE ? unlike(t.bytes, made.bytes) : -20;
    }

    private List<Integer> chainOf(int tool) {
        List<Integer> all = new ArrayList<>();
        for (int at = tool; at != NONE; at = tools.get(at).builder) {
            all.add(at);
        }
        return all;
    }

    private boolean isStale(int tool) {
        return chainOf(tool).stream().anyMatch(at -> rebuilt(at) != 0);
    }

    int stale() {
        int bits = 0;
        for (int i = 0; i < tools.size(); i++) {
            bits += isStale(i) ? 1 << i : 0;
        }
        return bits;
    }

    int settles(int tool, int i) {
        if (noTool(tool) || noText(i)) {
            return BAD;
        }
        List<List<Integer>> builds = new ArrayList<>(List.of(tools.get(tool).bytes));
        for (int k = 1; k <= 6; k++) {
            Ran ran = go(builds.get(k - 1), texts[i]);
            if (!ran.builds()) {
                return NONE;
            }
            builds.add(ran.out);
        }
        return firstLikeItsAhead(builds);
    }

    // Once two are the same all behind them are, so what comes later can't do HARM unseen.
    private static int firstLikeItsAhead(List<List<Integer>> builds) {
        for (int k = 1; k < builds.size(); k++) {
            if (builds.get(k).equals(builds.get(k - 1))) {
                return k;
            }
        }
        return NONE;
    }

    int round(int a, int b, int i) {
        if (noTool(a) || noTool(b) || noText(i)) {
            return BAD;
        }
        Ran a1 = go(tools.get(a).bytes, texts[i]);
        Ran b1 = go(tools.get(b).bytes, texts[i]);
        if (!a1.builds() || !b1.builds()) {
            return STATE;
        }
        Ran a2 = go(a1.out, texts[i]);
        Ran b2 = go(b1.out, texts[i]);
        return a2.builds() && b2.builds() ? unlike(a2.out, b2.out) : STATE;
    }

    int hides(int a, int b, int i) {
        int round = round(a, b, i);
        if (round < 0) {
            return round;
        }
        return round != 0 && go(tools.get(a).bytes, texts[i]).out.equals(tools.get(a).bytes) ? 1 : 0;
    }

    int check(int tool, int is) {
        if (noTool(tool) || is != 0 && is != 1) {
            return BAD;
        }
        Tool t = tools.get(tool);
        if (t.how != 0) {
            return STATE;
        }
        int was = t.checked ? 1 : 0;
        t.checked = is == 1;
        return was;
    }

    int chain(int tool, int k) {
        if (noTool(tool) || k < -1 || k >= chainOf(tool).size()) {
            return BAD;
        }
        return k == -1 ? chainOf(tool).size() : chainOf(tool).get(k);
    }

    private int last(int tool) {
        List<Integer> all = chainOf(tool);
        return all.get(all.size() - 1);
    }

    int sealed(int tool) {
        if (noTool(tool)) {
            return BAD;
        }
        return !isStale(tool) && tools.get(last(tool)).checked ? 1 : 0;
    }

    int least(int set) {
        if (set < 0 || set >= 1 << tools.size()) {
            return BAD;
        }
        int best = -1;
        List<Integer> wanted = new ArrayList<>();
        for (int i = 0; i < tools.size(); i++) {
            if ((set & 1 << i) != 0 && !isStale(i) && tools.get(last(i)).how == 0) {
                wanted.add(last(i));
            }
        }
        for (int more = 0; more < 1 << tools.size(); more++) {
            int by = more;
            boolean enough = wanted.stream().allMatch(at -> tools.get(at).checked || (by & 1 << at) != 0);
            if (enough && (best < 0 || Integer.bitCount(more) < Integer.bitCount(best))) {
                best = more;
            }
        }
        return best;
    }

    int same(int a, int b) {
        return noTool(a) || noTool(b) ? BAD : unlike(tools.get(a).bytes, tools.get(b).bytes);
    }

    int edition(int uses, int knows) {
        if (uses < 0 || uses > 65535 || knows < 0 || knows > 65535) {
            return BAD;
        }
        if (editions.size() == 12) {
            return FULL;
        }
        editions.add(new int[] {uses, knows});
        return editions.size() - 1;
    }

    private boolean noEdition(int i) {
        return i < 0 || i >= editions.size();
    }

    /** The first by numbers of the shortest ways; empty: there is none. */
    private List<Integer> way(int from, int to, int more) {
        Map<Integer, List<Integer>> found = new HashMap<>();
        List<List<Integer>> newest = List.of(List.of(from));
        found.put(from, newest.get(0));
        while (!newest.isEmpty() && !found.containsKey(to)) {
            List<List<Integer>> longer = new ArrayList<>();
            for (List<Integer> way : newest) {
                int by = way.get(way.size() - 1);
                int knows = editions.get(by)[1] | (by == from ? more : 0);
                for (int i = 0; i < editions.size(); i++) {
                    if (!found.containsKey(i) && (knows & editions.get(i)[0]) == editions.get(i)[0]) {
                        List<Integer> next = new ArrayList<>(way);
                        next.add(i);
                        longer.add(next);
                    }
                }
            }
            longer.sort((a, b) -> Arrays.compare(a.stream().mapToInt(v -> v).toArray(),
                b.stream().mapToInt(v -> v).toArray()));
            newest = new ArrayList<>();
            for (List<Integer> way : longer) {
                if (found.putIfAbsent(way.get(way.size() - 1), way) == null) {
                    newest.add(way);
                }
            }
        }
        return found.getOrDefault(to, List.of());
    }

    int ladder(int from, int to, int k) {
        if (noEdition(from) || noEdition(to) || k < -1) {
            return BAD;
        }
        List<Integer> way = way(from, to, 0);
        if (way.isEmpty() || k >= way.size()) {
            return NONE;
        }
        return k == -1 ? way.size() - 1 : way.get(k);
    }

    int needed(int from, int to, int what) {
        if (noEdition(from) || noEdition(to) || what < 0 || what > 1) {
            return BAD;
        }
        int now = way(from, to, 0).isEmpty() ? 99 : way(from, to, 0).size();
        int shortest = now;
        for (int w = 0; w < 16; w++) {
            int with = way(from, to, 1 << w).size();
            shortest = with == 0 ? shortest : Math.min(shortest, with);
        }
        for (int w = 0; w < 16; w++) {
            if (shortest < now && way(from, to, 1 << w).size() == shortest) {
                return what == 0 ? w : shortest - 1;
            }
        }
        return NONE;
    }

    private int weigh(int kind, int tool) {
        Tool t = tools.get(tool);
        trace += (long) Math.pow(10, kind);
        int up = kind == 0 ? 0 : weigh(new int[] {0, 0, 0, 2, 3, 0}[kind], tool);
        return switch (kind) {
            case 0 -> t.bytes.size();
            case 1 -> t.checked ? up + 9 : up;
            case 2 -> up + 2 * (int) t.bytes.stream().filter(b -> b >= 16).count();
            case 3 -> up + chainOf(tool).size();
            case 4 -> up * 3 % 251;
            default -> up / 3;
        };
    }

    int weight(int kind, int tool) {
        return noTool(tool) || kind < 0 || kind > 5 ? BAD : weigh(kind, tool);
    }

    int count(int what) {
        if (what < 0 || what > 4) {
            return BAD;
        }
        int checked = 0;
        int sealed = 0;
        for (int i = 0; i < tools.size(); i++) {
            checked += tools.get(i).checked ? 1 : 0;
            sealed += sealed(i);
        }
        return new int[] {tools.size(), editions.size(), typed.length(), checked, sealed}[what];
    }

    long trace() {
        return trace;
    }
}
