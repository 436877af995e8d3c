/** Counts answers that are not as due, and types texts. */
final class Due {
    private int asked = 0;
    private int wrong = 0;

    void is(String call, long got, long want) {
        asked++;
        if (got != want) {
            wrong++;
            System.out.println(call + " answered " + got + ", due is " + want);
        }
    }

    void end() {
        System.out.println(asked + " answers, " + wrong + " not as due");
        if (wrong != 0) {
            System.exit(1);
        }
    }

    /** Types the signs (0 .. 255 each) and makes them a TEXT. */
    static int put(LadderForge forge, int i, String signs) {
        forge.clear();
        for (int at = 0; at < signs.length(); at++) {
            forge.type(signs.charAt(at), 1);
        }
        return forge.text(i);
    }

    /** A TOOL by PAIRS of these bytes, from TEXT i. */
    static int tool(LadderForge forge, int i, int... bytes) {
        StringBuilder signs = new StringBuilder();
        for (int b : bytes) {
            signs.append(String.format("%02x", b));
        }
        put(forge, i, signs.toString());
        return forge.pairs(i);
    }

    static int named(LadderForge forge, int i, String signs) {
        put(forge, i, signs);
        return forge.named(i);
    }

    static String times(String part, int often) {
        return part.repeat(often);
    }
}
