/** Counts answers that are not as due, and types texts. */
final class Due {
    private static final int TEXT_BYTES = 200, AT_ONCE = 8;
    private int asked = 0;
    private int wrong = 0;
    private String sentence = "";

    /** The document's sentence that the answers from here on speak for. */
    void sentence(String words) {
        sentence = "[" + words + "] ";
    }

    void is(String call, long got, long want) {
        asked++;
        if (got != want) {
            wrong++;
            System.out.println(sentence + call + " answered " + got + ", due is " + want);
        }
    }

    void end() {
        System.out.println(asked + " answers, " + wrong + " not as due");
        if (wrong != 0) {
            System.exit(1);
        }
    }

    /** Types the signs (0 .. 255 each) and makes them a TEXT. */
    static int put(LadderForge forge, int i, String signs) {
        forge.clear();
        type(forge, signs);
        return forge.text(i);
    }

    /** Types in eights, for an object has 512 calls alone. */
    static void type(LadderForge forge, String signs) {
        if (signs.length() > TEXT_BYTES) {
            throw new IllegalArgumentException("a text of " + signs.length() + " bytes");
        }
        for (int at = 0; at < signs.length(); at += AT_ONCE) {
            int n = Math.min(AT_ONCE, signs.length() - at);
            long v = 0;
            for (int k = 0; k < n; k++) {
                v = v << 8 | signs.charAt(at + k);
            }
            forge.type(v, n);
        }
    }

    /** A TOOL by PAIRS of these bytes, from TEXT i. */
    static int tool(LadderForge forge, int i, int... bytes) {
        StringBuilder signs = new StringBuilder();
        for (int b : bytes) {
            signs.append(String.format("%02x", b));
        }
        put(forge, i, signs.toString());
        return forge.pairs(i);
    }

    static int named(LadderForge forge, int i, String signs) {
        put(forge, i, signs);
        return forge.named(i);
    }

    static String times(String part, int often) {
        return part.repeat(often);
    }

    /** A text of these bytes. */
    static String signs(int... bytes) {
        StringBuilder signs = new StringBuilder();
        for (int b : bytes) {
            signs.append((char) b);
        }
        return signs.toString();
    }
}
