import java.util.Random;

/** Random texts: most can be made to tools, some have a fault. */
final class RandomTexts {
    private static final String[] WORDS = {"stop", "in", "out", "set", "load", "store", "add", "sub",
        "get", "put", "to", "jump", "zero", "end", "plus", "minus", "byte"};
    private static final String[] WHOLE = {
        "L: in end Z out jump L Z: stop",
        "L: in end Z out jump L Z: set 7 out stop",
        "L: in end Z plus 1 out jump L Z: stop",
        "load C zero A plus 255 store C A: load 200 to get out load 200 plus 1 store 200 "
            + "plus 229 zero Z jump A Z: stop C: byte 4",
        "in out L: zero Z out jump L Z: stop",
        "in out minus H zero L stop L: jump L H: byte 16",
        "010d06020b0000", "01 02 0b 00", "0200", "0b00",
        "" + (char) 1 + (char) 13 + (char) 6 + (char) 2 + (char) 11 + (char) 0 + (char) 0,
        "" + (char) 2 + (char) 0, "" + (char) 1 + (char) 2 + (char) 0, "" + (char) 3 + (char) 20 + (char) 2};
    private static final String SIGNS = "ABZ:#\n 0123456789abcdefinoutse:\t$";

    private RandomTexts() { }

    static String any(Random random) {
        String text;
        switch (random.nextInt(6)) {
            case 0: text = names(random); break;
            case 1: text = pairs(random); break;
            case 2: text = bytes(random); break;
            default: text = WHOLE[random.nextInt(WHOLE.length)];
        }
        text = text.substring(0, Math.min(200, text.length()));
        return random.nextInt(3) == 0 ? changed(text, random) : text;
    }

    private static String changed(String text, Random random) {
        if (text.isEmpty()) {
            return text;
        }
        int at = random.nextInt(text.length());
        int cut = random.nextInt(3);
        String more = cut == 0 ? "" : "" + SIGNS.charAt(random.nextInt(SIGNS.length()));
        String made = text.substring(0, at) + more + text.substring(Math.min(text.length(), at + random.nextInt(3)));
        return made.substring(0, Math.min(200, made.length()));
    }

    private static String names(Random random) {
        StringBuilder text = new StringBuilder();
        int items = 1 + random.nextInt(20);
        int next = 0;
        for (int i = 0; i < items; i++) {
            if (random.nextInt(4) == 0) {
                text.append((char) ('A' + (next < 5 ? next++ : random.nextInt(26)))).append(':');
            }
            int word = random.nextInt(WORDS.length);
            text.append(WORDS[word]);
            boolean n = word >= 3 && word <= 7 || word >= 11;
            if (n) {
                text.append(random.nextInt(8) == 0 ? "" : " ");
                text.append(random.nextInt(3) == 0 ? "" + (char) ('A' + random.nextInt(4))
                    : "" + random.nextInt(random.nextInt(20) == 0 ? 300 : 40));
            }
            text.append(random.nextInt(10) == 0 ? " # it\n" : random.nextInt(4) == 0 ? "\n" : " ");
        }
        return text.toString();
    }

    private static String pairs(Random random) {
        StringBuilder text = new StringBuilder();
        int many = 1 + random.nextInt(30);
        for (int i = 0; i < many; i++) {
            text.append(String.format("%02x", random.nextInt(random.nextInt(4) == 0 ? 256 : 16)));
            text.append(random.nextInt(10) == 0 ? " #0\n" : random.nextInt(3) == 0 ? " " : "");
        }
        return text.toString();
    }

    private static String bytes(Random random) {
        StringBuilder text = new StringBuilder();
        int many = random.nextInt(20);
        for (int i = 0; i < many; i++) {
            text.append((char) random.nextInt(random.nextInt(3) == 0 ? 256 : 16));
        }
        return text.toString();
    }
}
