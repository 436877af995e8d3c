/** A small machine, the texts its tools are made from, and the ways by which tools are trusted. */
public final class LadderForge {
    public static final int BAD = -1, STATE = -2, FULL = -3, NONE = -9;

    private static final int BYTES = 256, LOW_BYTE = 255;
    private static final int MOST_TEXTS = 8, TEXT_BYTES = 200, TYPED_AT_ONCE = 8;
    private static final int MOST_TOOLS = 12, MOST_EDITIONS = 12, MOST_BUILDS = 6;
    private static final int WORD_BITS = 16, ALL_WORDS = 65535;

    private static final int BY_PAIRS = 0, BY_NAMES = 1, BY_TOOL = 2;
    private static final int CODED = -10, NOTHING_CAME = -20;

    private final Text typed = new Text();
    private final Text[] texts = new Text[MOST_TEXTS];
    private final Tool[] tools = new Tool[MOST_TOOLS];
    private int toolCount = 0;
    private final Maker pairsMaker = new PairsMaker();
    private final Maker namedMaker = new NamedMaker();
    // Only run() may touch this one: ran() and tape() tell of it until the next run().
    private final Machine latest = new Machine();
    private final Machine one = new Machine();
    private final Machine two = new Machine();
    private final Editions editions = new Editions();
    private long traced = 0;

    public LadderForge() {
        for (int i = 0; i < MOST_TEXTS; i++) {
            texts[i] = new Text();
        }
    }

    // ---- texts, tools

    public int type(long v, int n) {
        if (n < 1 || n > TYPED_AT_ONCE) {
            return BAD;
        }
        if (typed.length + n > TEXT_BYTES) {
            return FULL;
        }
        for (int i = n - 1; i >= 0; i--) {
            typed.add((int) (v >>> (8 * i)) & LOW_BYTE);
        }
        return typed.length;
    }

    public int clear() {
        int had = typed.length;
        typed.length = 0;
        return had;
    }

    public int text(int i) {
        Text text = textAt(i);
        if (text == null) {
            return BAD;
        }
        text.become(typed);
        typed.length = 0;
        return text.length;
    }

    public int read(int i, int at) {
        Text text = textAt(i);
        return text == null ? BAD : text.at(at);
    }

    public int pairs(int i) {
        return make(BY_PAIRS, i);
    }

    public int named(int i) {
        return make(BY_NAMES, i);
    }

    public int build(int tool, int i) {
        Tool builder = toolAt(tool);
        Text text = textAt(i);
        if (builder == null || text == null) {
            return BAD;
        }
        if (!one.builds(builder.code, text)) {
            return STATE;
        }
        return keep(one.out, BY_TOOL, i, tool);
    }

    public int tool(int i, int what) {
        Tool tool = toolAt(i);
        if (tool == null) {
            return BAD;
        }
        switch (what) {
            case 0: return tool.code.length;
            case 1: return tool.how;
            case 2: return tool.text;
            case 3: return tool.builder;
            case 4: return tool.checked ? 1 : 0;
            default: return BAD;
        }
    }

    public int code(int tool, int at, int what) {
        Tool of = toolAt(tool);
        if (of == null || what < 0 || what > 1) {
            return BAD;
        }
        return what == 0 ? of.code.at(at) : of.code.ledAt(at);
    }

    // ---- runs

    public int run(int tool, int i) {
        Tool of = toolAt(tool);
        Text text = textAt(i);
        if (of == null || text == null) {
            return BAD;
        }
        latest.goThrough(of.code, text);
        return latest.harm == 0 ? latest.out.length : CODED - latest.harm;
    }

    public int ran(int what) {
        switch (what) {
            case 0: return latest.done;
            case 1: return latest.taken;
            case 2: return latest.a;
            case 3: return latest.x;
            case 4: return latest.p;
            case 5: return latest.out.length;
            default: return BAD;
        }
    }

    public int tape(int at, int what) {
        if (what == 0) {
            return latest.out.at(at);
        }
        return what == 1 ? latest.memoryAt(at) : BAD;
    }

    // ---- ways round

    public int rebuilt(int tool) {
        Tool of = toolAt(tool);
        return of == null ? BAD : madeAgain(of);
    }

    public int stale() {
        return staleBits();
    }

    public int settles(int tool, int i) {
        Tool of = toolAt(tool);
        Text text = textAt(i);
        if (of == null || text == null) {
            return BAD;
        }
        Code ahead = of.code;
        for (int build = 1; build <= MOST_BUILDS; build++) {
            // Two machines in turn, so that the bytes ahead still lie on the other one's tape.
            Machine next = build % 2 == 1 ? one : two;
            if (!next.builds(ahead, text)) {
                return NONE;
            }
            if (ahead.unlike(next.out) == 0) {
                return build;
            }
            ahead = next.out;
        }
        return NONE;
    }

    public int round(int a, int b, int i) {
        Tool first = toolAt(a);
        Tool other = toolAt(b);
        Text text = textAt(i);
        if (first == null || other == null || text == null) {
            return BAD;
        }
        return goneRound(first, other, text);
    }

    public int hides(int a, int b, int i) {
        Tool first = toolAt(a);
        Tool other = toolAt(b);
        Text text = textAt(i);
        if (first == null || other == null || text == null) {
            return BAD;
        }
        int unlike = goneRound(first, other, text);
        if (unlike <= 0) {
            return unlike;
        }
        return one.builds(first.code, text) && first.code.unlike(one.out) == 0 ? 1 : 0;
    }

    public int check(int tool, int is) {
        Tool of = toolAt(tool);
        if (of == null || is < 0 || is > 1) {
            return BAD;
        }
        if (of.how != BY_PAIRS) {
            return STATE;
        }
        int was = of.checked ? 1 : 0;
        of.checked = is == 1;
        return was;
    }

    public int chain(int tool, int k) {
        if (toolAt(tool) == null) {
            return BAD;
        }
        int length = chainLength(tool);
        if (k == -1) {
            return length;
        }
        return k < 0 || k >= length ? BAD : chainAt(tool, k);
    }

    public int sealed(int tool) {
        if (toolAt(tool) == null) {
            return BAD;
        }
        return isSealed(tool, staleBits()) ? 1 : 0;
    }

    public int least(int set) {
        if (set < 0 || set >= 1 << toolCount) {
            return BAD;
        }
        int fresh = set & ~staleBits();
        int more = 0;
        for (int i = 0; i < MOST_TOOLS; i++) {
            if (hasBit(fresh, i)) {
                int last = chainEnd(i);
                Tool start = toolAt(last);
                if (start != null && start.how == BY_PAIRS && !start.checked) {
                    more |= 1 << last;
                }
            }
        }
        return more;
    }

    public int same(int a, int b) {
        Tool first = toolAt(a);
        Tool other = toolAt(b);
        return first == null || other == null ? BAD : first.code.unlike(other.code);
    }

    // ---- ladders

    public int edition(int uses, int knows) {
        if (uses < 0 || uses > ALL_WORDS || knows < 0 || knows > ALL_WORDS) {
            return BAD;
        }
        return editions.add(uses, knows);
    }

    public int ladder(int from, int to, int k) {
        if (!editions.has(from) || !editions.has(to) || k < -1) {
            return BAD;
        }
        int builds = editions.fewest(from, to, 0);
        if (builds == NONE || k > builds) {
            return NONE;
        }
        return k == -1 ? builds : editions.step(from, k);
    }

    public int needed(int from, int to, int what) {
        if (!editions.has(from) || !editions.has(to) || what < 0 || what > 1) {
            return BAD;
        }
        int word = NONE;
        int best = editions.fewest(from, to, 0);
        for (int w = 0; w < WORD_BITS; w++) {
            int builds = editions.fewest(from, to, 1 << w);
            if (builds != NONE && (best == NONE || builds < best)) {
                best = builds;
                word = w;
            }
        }
        return word == NONE || what == 0 ? word : best;
    }

    public int weight(int kind, int tool) {
        Tool of = toolAt(tool);
        if (of == null) {
            return BAD;
        }
        switch (kind) {
            case 0: return asTool(of);
            case 1: return asPaired(of);
            case 2: return asNamed(of);
            case 3: return asBuilt(of, tool);
            case 4: return asSealed(of, tool);
            case 5: return asDoubted(of);
            default: return BAD;
        }
    }

    public int count(int what) {
        switch (what) {
            case 0: return toolCount;
            case 1: return editions.held;
            case 2: return typed.length;
            case 3: return checkedTools();
            case 4: return sealedTools(staleBits());
            default: return BAD;
        }
    }

    public long trace() {
        return traced;
    }

    // ---- what the calls above share

    private Text textAt(int i) {
        return i < 0 || i >= MOST_TEXTS ? null : texts[i];
    }

    private Tool toolAt(int i) {
        return i < 0 || i >= toolCount || i >= MOST_TOOLS ? null : tools[i];
    }

    private static boolean hasBit(int bits, int i) {
        return (bits >> i & 1) == 1;
    }

    private int make(int how, int i) {
        Text text = textAt(i);
        if (text == null) {
            return BAD;
        }
        Maker maker = makerBy(how);
        int fault = maker.faultIn(text);
        return fault == NONE ? keep(maker.draft, how, i, NONE) : CODED - fault;
    }

    private Maker makerBy(int how) {
        return how == BY_PAIRS ? pairsMaker : namedMaker;
    }

    private int keep(Code made, int how, int text, int builder) {
        if (toolCount < 0 || toolCount >= MOST_TOOLS) {
            return FULL;
        }
        tools[toolCount] = new Tool(made.copied(), how, text, builder);
        toolCount++;
        return toolCount - 1;
    }

    private int madeAgain(Tool tool) {
        Text text = textAt(tool.text);
        if (text == null) {
            return NOTHING_CAME;
        }
        if (tool.how == BY_TOOL) {
            return builtAgain(tool, text);
        }
        Maker maker = makerBy(tool.how);
        return maker.faultIn(text) == NONE ? tool.code.unlike(maker.draft) : NOTHING_CAME;
    }

    private int builtAgain(Tool tool, Text text) {
        Tool builder = toolAt(tool.builder);
        if (builder == null) {
            return NOTHING_CAME;
        }
        one.goThrough(builder.code, text);
        if (one.harm != 0) {
            return CODED - one.harm;
        }
        return one.out.length == 0 ? NOTHING_CAME : tool.code.unlike(one.out);
    }

    private int staleBits() {
        int bits = 0;
        for (int i = 0; i < toolCount; i++) {
            Tool tool = toolAt(i);
            if (tool != null && (isBuiltByOneOf(bits, tool) || madeAgain(tool) != 0)) {
                bits |= 1 << i;
            }
        }
        return bits;
    }

    private static boolean isBuiltByOneOf(int bits, Tool tool) {
        return tool.how == BY_TOOL && hasBit(bits, tool.builder);
    }

    /** 0 or 1 and the first place at which the second builds are unlike; STATE. */
    private int goneRound(Tool a, Tool b, Text text) {
        boolean came = one.builds(a.code, text) && one.builds(one.out, text)
            && two.builds(b.code, text) && two.builds(two.out, text);
        return came ? one.out.unlike(two.out) : STATE;
    }

    private int chainLength(int tool) {
        int length = 0;
        Tool at = toolAt(tool);
        while (at != null && length < MOST_TOOLS) {
            length++;
            at = toolAt(at.builder);
        }
        return length;
    }

    private int chainAt(int tool, int k) {
        int at = tool;
        for (int step = 0; step < k && step < MOST_TOOLS; step++) {
            Tool of = toolAt(at);
            at = of == null ? NONE : of.builder;
        }
        return at;
    }

    private int chainEnd(int tool) {
        return chainAt(tool, chainLength(tool) - 1);
    }

    private boolean isSealed(int tool, int staleOnes) {
        Tool start = toolAt(chainEnd(tool));
        // What is BUILT by a STALE one is STALE too, so the tool's own bit speaks for its CHAIN.
        return start != null && start.checked && !hasBit(staleOnes, tool);
    }

    private int checkedTools() {
        int found = 0;
        for (int i = 0; i < toolCount; i++) {
            Tool tool = toolAt(i);
            if (tool != null && tool.checked) {
                found++;
            }
        }
        return found;
    }

    private int sealedTools(int staleOnes) {
        int found = 0;
        for (int i = 0; i < toolCount; i++) {
            if (isSealed(i, staleOnes)) {
                found++;
            }
        }
        return found;
    }

    private int asTool(Tool tool) {
        traced += 1;
        return tool.code.length;
    }

    private int asPaired(Tool tool) {
        traced += 10;
        return asTool(tool) + (tool.checked ? 9 : 0);
    }

    private int asNamed(Tool tool) {
        traced += 100;
        return asTool(tool) + 2 * tool.code.beyondOrders();
    }

    private int asBuilt(Tool tool, int number) {
        traced += 1000;
        return asNamed(tool) + chainLength(number);
    }

    private int asSealed(Tool tool, int number) {
        traced += 10000;
        return asBuilt(tool, number) * 3 % 251;
    }

    private int asDoubted(Tool tool) {
        traced += 100000;
        return asTool(tool) / 3;
    }

    /** Bytes that were typed, and where gaps between what they say end. */
    private static final class Text {
        private final int[] bytes = new int[TEXT_BYTES];
        private int length = 0;

        int at(int i) {
            return i < 0 || i >= length || i >= TEXT_BYTES ? BAD : bytes[i];
        }

        void add(int b) {
            if (length >= 0 && length < TEXT_BYTES) {
                bytes[length] = b;
                length++;
            }
        }

        void become(Text other) {
            length = 0;
            for (int i = 0; i < other.length; i++) {
                add(other.at(i));
            }
        }

        /** The first place from there on that is no blank, line end or remark; the length. */
        int pastGap(int from) {
            boolean remark = false;
            for (int i = from; i < length; i++) {
                int b = at(i);
                if (b == '\n') {
                    remark = false;
                } else if (b == '#') {
                    remark = true;
                } else if (!remark && b != ' ') {
                    return i;
                }
            }
            return length;
        }
    }

    /** A tool's bytes, each with the place it is LED to. */
    private static final class Code {
        private final int most;
        private final int[] bytes;
        private final int[] led;
        private int length = 0;

        Code(int room) {
            most = room < 0 ? 0 : Math.min(room, BYTES);
            bytes = new int[most];
            led = new int[most];
        }

        boolean add(int b, int place) {
            if (length < 0 || length >= most) {
                return false;
            }
            bytes[length] = b;
            led[length] = place;
            length++;
            return true;
        }

        int at(int i) {
            return i < 0 || i >= length || i >= most ? BAD : bytes[i];
        }

        int ledAt(int i) {
            return i < 0 || i >= length || i >= most ? BAD : led[i];
        }

        void change(int i, int b) {
            if (i >= 0 && i < length && i < most) {
                bytes[i] = b;
            }
        }

        /** 0, or 1 and the first place at which both are unlike or one of both ends. */
        int unlike(Code other) {
            int both = Math.min(length, other.length);
            for (int i = 0; i < both; i++) {
                if (at(i) != other.at(i)) {
                    return 1 + i;
                }
            }
            return length == other.length ? 0 : 1 + both;
        }

        int beyondOrders() {
            int found = 0;
            for (int i = 0; i < length; i++) {
                if (at(i) > Machine.LAST_ORDER) {
                    found++;
                }
            }
            return found;
        }

        Code copied() {
            Code copy = new Code(length);
            for (int i = 0; i < length; i++) {
                copy.add(at(i), ledAt(i));
            }
            return copy;
        }
    }

    private static final class Tool {
        private final Code code;
        private final int how;
        private final int text;
        private final int builder;
        private boolean checked = false;

        Tool(Code code, int how, int text, int builder) {
            this.code = code;
            this.how = how;
            this.text = text;
            this.builder = builder;
        }
    }

    /** The machine of sixteen orders; what a run leaves stays until the next one. */
    private static final class Machine {
        private static final int LAST_ORDER = 15, MOST_ORDERS = 5000;
        private static final int STOP = 0, IN = 1, OUT = 2, SET = 3, LOAD = 4, STORE = 5, ADD = 6, SUB = 7;
        private static final int GET = 8, PUT = 9, TO = 10, JUMP = 11, ZERO = 12, END = 13, PLUS = 14, MINUS = 15;
        private static final int NO_ORDER = 1, TOO_MUCH_OUT = 2, TOO_LONG = 3;

        private final int[] memory = new int[BYTES];
        private final Code out = new Code(BYTES);
        private int a = 0;
        private int x = 0;
        private int p = 0;
        private boolean ended = false;
        private int done = 0;
        private int taken = 0;
        private int harm = 0;

        static boolean hasNumber(int order) {
            return order >= SET && order <= SUB || order >= JUMP && order <= MINUS;
        }

        int memoryAt(int i) {
            return i < 0 || i >= BYTES ? BAD : memory[i];
        }

        /** Whether a run without HARM put something out. */
        boolean builds(Code code, Text tape) {
            goThrough(code, tape);
            return harm == 0 && out.length > 0;
        }

        void goThrough(Code code, Text tape) {
            load(code);
            boolean on = true;
            for (int turn = 0; on && turn <= MOST_ORDERS; turn++) {
                int order = memory[p & LOW_BYTE];
                harm = harmOf(order);
                on = harm == 0 && order != STOP;
                if (harm == 0) {
                    obey(order, tape);
                    done++;
                }
            }
        }

        private void load(Code code) {
            // The code may be what this machine put out, so the tape is emptied behind this loop.
            for (int i = 0; i < BYTES; i++) {
                memory[i] = i < code.length ? code.at(i) : 0;
            }
            out.length = 0;
            a = 0;
            x = 0;
            p = 0;
            ended = false;
            done = 0;
            taken = 0;
            harm = 0;
        }

        private int harmOf(int order) {
            if (order > LAST_ORDER) {
                return NO_ORDER;
            }
            // A 5001st ORDER is not done, so it puts nothing out: this stands ahead of the tape's bound.
            if (done >= MOST_ORDERS) {
                return TOO_LONG;
            }
            return order == OUT && out.length >= BYTES ? TOO_MUCH_OUT : 0;
        }

        private void obey(int order, Text tape) {
            int n = memory[p + 1 & LOW_BYTE] & LOW_BYTE;
            int next = p + (hasNumber(order) ? 2 : 1);
            switch (order) {
                case IN: take(tape.at(taken)); break;
                case OUT: out.add(a, Math.max(0, taken - 1)); break;
                case SET: a = n; break;
                case LOAD: a = memory[n]; break;
                case STORE: memory[n] = a; break;
                case ADD: a = a + memory[n] & LOW_BYTE; break;
                case SUB: a = a - memory[n] & LOW_BYTE; break;
                case GET: a = memory[x & LOW_BYTE]; break;
                case PUT: memory[x & LOW_BYTE] = a; break;
                case TO: x = a; break;
                case JUMP: next = n; break;
                case ZERO: next = a == 0 ? n : next; break;
                case END: next = ended ? n : next; break;
                case PLUS: a = a + n & LOW_BYTE; break;
                case MINUS: next = a >= 128 ? n : next; break;
                default: break;
            }
            p = next & LOW_BYTE;
        }

        private void take(int b) {
            if (b == BAD) {
                a = 0;
                ended = true;
            } else {
                a = b;
                taken++;
            }
        }
    }

    /** Makes a text to code: the draft, which the next text overwrites. */
    private abstract static class Maker {
        final Code draft = new Code(BYTES);

        /** The FAULT, or NONE: then the draft holds what the text says. */
        abstract int faultIn(Text text);
    }

    /** Makes texts of digit pairs to code. */
    private static final class PairsMaker extends Maker {
        int faultIn(Text text) {
            draft.length = 0;
            int at = text.pastGap(0);
            for (int turn = 0; turn < TEXT_BYTES && at < text.length; turn++) {
                int high = digit(text.at(at));
                if (high == NONE) {
                    return at;
                }
                int low = digit(text.at(at + 1));
                // Behind the text's end there is no digit either, and that place is its length.
                if (low == NONE || !draft.add(16 * high + low, at)) {
                    return at + 1;
                }
                at = text.pastGap(at + 2);
            }
            return draft.length == 0 ? text.length : NONE;
        }

        private static int digit(int b) {
            if (b >= '0' && b <= '9') {
                return b - '0';
            }
            return b >= 'a' && b <= 'f' ? b - 'a' + 10 : NONE;
        }
    }

    /** Makes texts of words, numbers and letters to code. */
    private static final class NamedMaker extends Maker {
        private static final int LETTERS = 26, WORD_SIGNS = 5, WORDS = 17, BYTE = 16;
        private static final String SPELT =
            "stop in   out  set  load storeadd  sub  get  put  to   jump zero end  plus minusbyte ";
        private static final int AN_ITEM = 0, A_COLON = 1, A_NUMBER = 2;

        private final int[] placeOf = new int[LETTERS];
        private final int[] letterUsed = new int[BYTES];
        private int due = AN_ITEM;
        private int letterAt = NONE;

        int faultIn(Text text) {
            begin();
            int at = text.pastGap(0);
            for (int turn = 0; turn < TEXT_BYTES && at < text.length; turn++) {
                int signs = tokenSigns(text, at);
                if (signs == 0 || !takes(text, at, signs)) {
                    return at;
                }
                at = text.pastGap(at + signs);
            }
            if (due != AN_ITEM || draft.length == 0) {
                return text.length;
            }
            return putPlaces();
        }

        private void begin() {
            draft.length = 0;
            due = AN_ITEM;
            letterAt = NONE;
            for (int i = 0; i < LETTERS; i++) {
                placeOf[i] = NONE;
            }
            for (int i = 0; i < BYTES; i++) {
                letterUsed[i] = NONE;
            }
        }

        private static boolean isDigit(int b) {
            return b >= '0' && b <= '9';
        }

        private static boolean isSmall(int b) {
            return b >= 'a' && b <= 'z';
        }

        private static boolean isLetter(int b) {
            return b >= 'A' && b <= 'Z';
        }

        /** How many bytes the TOKEN has that begins there; 0 of none. */
        private static int tokenSigns(Text text, int at) {
            int first = text.at(at);
            if (first == ':' || isLetter(first)) {
                return 1;
            }
            int end = at;
            while (end < text.length && isMoreOf(first, text.at(end))) {
                end++;
            }
            return end - at;
        }

        private static boolean isMoreOf(int first, int b) {
            return isDigit(first) && isDigit(b) || isSmall(first) && isSmall(b);
        }

        /** Whether the TOKEN can stand there. */
        private boolean takes(Text text, int at, int signs) {
            int first = text.at(at);
            if (first == ':') {
                return takesColon(at);
            }
            if (isLetter(first)) {
                return due == A_NUMBER ? takesLetter(first - 'A', at) : takesPlace(first - 'A', at);
            }
            return isDigit(first) ? takesNumber(valueOf(text, at, signs), at) : takesWord(wordOf(text, at, signs), at);
        }

        private boolean takesColon(int at) {
            if (due != A_COLON || at != letterAt + 1) {
                return false;
            }
            due = AN_ITEM;
            return true;
        }

        private boolean takesPlace(int letter, int at) {
            if (due != AN_ITEM || letter < 0 || letter >= LETTERS || placeOf[letter] != NONE) {
                return false;
            }
            placeOf[letter] = draft.length;
            letterAt = at;
            due = A_COLON;
            return true;
        }

        private boolean takesLetter(int letter, int at) {
            int i = draft.length;
            if (i < 0 || i >= BYTES) {
                return false;
            }
            letterUsed[i] = letter;
            due = AN_ITEM;
            return draft.add(0, at);
        }

        private boolean takesNumber(int value, int at) {
            if (due != A_NUMBER || value == NONE) {
                return false;
            }
            due = AN_ITEM;
            return draft.add(value, at);
        }

        private static int valueOf(Text text, int at, int signs) {
            if (signs > 3 || signs > 1 && text.at(at) == '0') {
                return NONE;
            }
            int value = 0;
            for (int i = 0; i < signs; i++) {
                value = 10 * value + text.at(at + i) - '0';
            }
            return value > LOW_BYTE ? NONE : value;
        }

        private boolean takesWord(int word, int at) {
            if (due != AN_ITEM || word == NONE) {
                return false;
            }
            if (word == BYTE) {
                due = A_NUMBER;
                return true;
            }
            due = Machine.hasNumber(word) ? A_NUMBER : AN_ITEM;
            return draft.add(word, at);
        }

        private static int wordOf(Text text, int at, int signs) {
            if (signs > WORD_SIGNS) {
                return NONE;
            }
            for (int word = 0; word < WORDS; word++) {
                int alike = 0;
                for (int i = 0; i < WORD_SIGNS && alike == i; i++) {
                    int place = WORD_SIGNS * word + i;
                    int is = i < signs ? text.at(at + i) : ' ';
                    if (place < SPELT.length() && SPELT.charAt(place) == is) {
                        alike++;
                    }
                }
                if (alike == WORD_SIGNS) {
                    return word;
                }
            }
            return NONE;
        }

        /** Letters used as n become numbers: NONE, or where the first one stands that is no PLACE's. */
        private int putPlaces() {
            for (int i = 0; i < draft.length && i < BYTES; i++) {
                int letter = letterUsed[i];
                if (letter >= 0 && letter < LETTERS) {
                    if (placeOf[letter] == NONE) {
                        return draft.ledAt(i);
                    }
                    draft.change(i, placeOf[letter]);
                }
            }
            return NONE;
        }
    }

    /** The editions, and the fewest builds between them. */
    private static final class Editions {
        private final int[] uses = new int[MOST_EDITIONS];
        private final int[] knows = new int[MOST_EDITIONS];
        // Builds from each edition to the one that fewest() was asked for last; NONE.
        private final int[] left = new int[MOST_EDITIONS];
        private int held = 0;

        int add(int used, int known) {
            if (held < 0 || held >= MOST_EDITIONS) {
                return FULL;
            }
            uses[held] = used;
            knows[held] = known;
            held++;
            return held - 1;
        }

        boolean has(int i) {
            return i >= 0 && i < held && i < MOST_EDITIONS;
        }

        /** The fewest builds if the first one knew more words too; NONE. */
        int fewest(int from, int to, int moreWords) {
            if (!has(from) || !has(to)) {
                return NONE;
            }
            for (int i = 0; i < MOST_EDITIONS; i++) {
                left[i] = NONE;
            }
            left[to] = 0;
            int knew = knows[from];
            knows[from] = knew | moreWords;
            for (int builds = 0; builds < held; builds++) {
                reachBack(builds);
            }
            knows[from] = knew;
            return left[from];
        }

        private void reachBack(int builds) {
            for (int i = 0; i < held && i < MOST_EDITIONS; i++) {
                if (left[i] == NONE && firstBuilt(i, builds) != NONE) {
                    left[i] = builds + 1;
                }
            }
        }

        /** The first edition that this one builds and that has so many builds left; NONE. */
        private int firstBuilt(int by, int builds) {
            for (int i = 0; i < held && i < MOST_EDITIONS; i++) {
                if (left[i] == builds && has(by) && (uses[i] & ~knows[by]) == 0) {
                    return i;
                }
            }
            return NONE;
        }

        /** The k-th edition of the ladder that fewest() found last. */
        int step(int from, int k) {
            int at = from;
            for (int i = 0; i < k && i < MOST_EDITIONS; i++) {
                at = has(at) ? firstBuilt(at, left[at] - 1) : NONE;
            }
            return at;
        }
    }
}
