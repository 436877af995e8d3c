/** PAIRS (part 2 of the document, promise 6): each sentence with a boundary, one method each. */
public final class EdgesPairsTest {
    private static final Due due = new Due();

    public static void main(String[] args) {
        everyPair();
        firstDigit();
        secondDigit();
        betweenPairs();
        sideBySide();
        blanks();
        remarks();
        remarkToTheEnd();
        firstFault();
        endsBehindOneDigit();
        hasNoPair();
        longest();
        led();
        refused();
        due.end();
    }

    private static void fault(String text, int fault) {
        LadderForge f = new LadderForge();
        Due.put(f, 0, text);
        due.is("pairs of '" + text + "'", f.pairs(0), -10 - fault);
        due.is("no tool of '" + text + "'", f.count(0), 0);
    }

    private static void made(String text, int... bytes) {
        LadderForge f = new LadderForge();
        Due.put(f, 0, text);
        due.is("pairs of '" + text + "'", f.pairs(0), 0);
        due.is("bytes of '" + text + "'", f.tool(0, 0), bytes.length);
        for (int at = 0; at < bytes.length; at++) {
            due.is("'" + text + "', byte " + at, f.code(0, at, 0), bytes[at]);
        }
    }

    private static boolean isDigit(int b) {
        return b >= '0' && b <= '9' || b >= 'a' && b <= 'f';
    }

    private static void everyPair() {
        due.sentence("a TEXT of digits 0 .. 9, a .. f, two for each byte");
        for (int b = 0; b < 256; b++) {
            made(String.format("%02x", b), b);
        }
    }

    private static void firstDigit() {
        due.sentence("FAULT: the first byte that can't stand there (where a pair begins)");
        for (int b = 0; b < 256; b++) {
            String text = "00 " + (char) b + "0";
            if (isDigit(b)) {
                made(text, 0, Integer.parseInt((char) b + "0", 16));
            } else if (b == ' ' || b == '\n') {
                fault(text, 5);
            } else if (b == '#') {
                made(text, 0);
            } else {
                fault(text, 3);
            }
        }
    }

    private static void secondDigit() {
        due.sentence("two for each byte, the two side by side; FAULT: the first byte that can't stand there");
        for (int b = 0; b < 256; b++) {
            String text = "5" + (char) b;
            if (isDigit(b)) {
                made(text, Integer.parseInt(text, 16));
            } else {
                fault(text, 1);
                fault("00 # it\n" + text + "00", 9);
            }
        }
    }

    private static void betweenPairs() {
        due.sentence("between pairs blanks (32), line ends (10), and remarks");
        for (int b = 0; b < 256; b++) {
            String text = "07" + (char) b + "0e";
            if (b == ' ' || b == '\n') {
                made(text, 7, 14);
            } else if (b == '#') {
                made(text, 7);
            } else {
                // a digit there begins the second pair, and the last digit stands alone
                fault(text, isDigit(b) ? 5 : 2);
            }
        }
    }

    private static void sideBySide() {
        due.sentence("two for each byte, the two side by side");
        made("0001", 0, 1);
        fault("0 0", 1);
        fault("0\n0", 1);
        fault("0#\n0", 1);
        fault("00 0 1", 4);
        fault("000 1", 3);
    }

    private static void blanks() {
        due.sentence("between pairs blanks (32), line ends (10), and remarks (ahead of the first and behind the last, too)");
        made(" 01", 1);
        made("\n01", 1);
        made("#\n01", 1);
        made("01 ", 1);
        made("01\n", 1);
        made("01#", 1);
        made("   \n \n\n #00\n  01 \n\n 02 # 03", 1, 2);
    }

    private static void remarks() {
        due.sentence("remarks: # and all up to a line end");
        for (int b = 0; b < 256; b++) {
            String text = "01#" + (char) b + "02";
            if (b == '\n') {
                made(text, 1, 2);
            } else {
                made(text, 1);
            }
        }
        made("#a#b\n01", 1);
        made("#\n#\n01#\n02", 1, 2);
        fault("#\nx", 2);
        fault("#\n##\n0", 6);
    }

    private static void remarkToTheEnd() {
        due.sentence("remarks: # and all up to a line end or the text's");
        made("01#", 1);
        made("01 # 02", 1);
        made("01#" + Due.times("x", 197), 1);
        fault("#", 1);
        fault("#01", 3);
        fault("#" + Due.times("0", 199), 200);
    }

    private static void firstFault() {
        due.sentence("FAULT: the first byte that can't stand there");
        fault("x", 0);
        fault("xx0", 0);
        fault("0x0x", 1);
        fault("00 01x 0", 5);
        fault("00x01x", 2);
        fault(Due.times("0", 198) + " x", 199);
        fault(Due.times("0", 199) + "x", 199);
    }

    private static void endsBehindOneDigit() {
        due.sentence("FAULT: the text's length, if it ends behind one digit");
        fault("0", 1);
        fault("000", 3);
        fault("00 1", 4);
        fault("#\n\n1", 4);
        fault(Due.times("0", 199), 199);
        fault(Due.times(" ", 199) + "0", 200);
        // one digit, and then a blank: the blank can't stand there
        fault("00 1 ", 4);
        fault("00 1#", 4);
        fault("00 1\n", 4);
    }

    private static void hasNoPair() {
        due.sentence("FAULT: the text's length, if it .. has no pair");
        fault("", 0);
        fault(" ", 1);
        fault("\n", 1);
        fault("#\n", 2);
        fault(" # 00\n \n", 8);
        fault(Due.times(" ", 200), 200);
        LadderForge f = new LadderForge();
        for (int i = 0; i < 8; i++) {
            due.is("empty at first, text " + i, f.pairs(i), -10);
        }
    }

    private static void longest() {
        due.sentence("TEXTS (200 bytes at most each): 100 pairs");
        LadderForge f = new LadderForge();
        Due.put(f, 0, Due.times("7c", 99) + "80");
        due.is("pairs", f.pairs(0), 0);
        due.is("100 bytes", f.tool(0, 0), 100);
        due.is("the 99th", f.code(0, 98, 0), 0x7c);
        due.is("the 100th", f.code(0, 99, 0), 0x80);
        due.is("no 101st", f.code(0, 100, 0), LadderForge.BAD);
        due.is("the 100th is LED", f.code(0, 99, 1), 198);
        Due.put(f, 1, Due.times(" ", 198) + "ff");
        due.is("a pair at the end", f.pairs(1), 1);
        due.is("is one byte", f.tool(1, 0), 1);
        due.is("of 255", f.code(1, 0, 0), 255);
        due.is("and LED", f.code(1, 0, 1), 198);
    }

    private static void led() {
        due.sentence("A byte of such a TOOL is LED to the place of its first digit");
        LadderForge f = new LadderForge();
        Due.put(f, 0, "0102 03#04\n\n05");
        due.is("pairs", f.pairs(0), 0);
        int[] want = {0, 2, 5, 12};
        for (int at = 0; at < want.length; at++) {
            due.is("led " + at, f.code(0, at, 1), want[at]);
        }
        due.is("behind the last", f.code(0, 4, 1), LadderForge.BAD);
        due.is("ahead of the first", f.code(0, -1, 1), LadderForge.BAD);
    }

    private static void refused() {
        due.sentence("A TOOL by PAIRS of a TEXT: its number; -10 less FAULT. BAD; FULL.");
        LadderForge f = new LadderForge();
        int[] none = {-1, 8, Integer.MIN_VALUE, Integer.MAX_VALUE};
        Due.put(f, 0, "00");
        Due.put(f, 7, "01");
        Due.put(f, 6, "0");
        for (int i = 0; i < 12; i++) {
            for (int text : none) {
                due.is("pairs(" + text + ")", f.pairs(text), LadderForge.BAD);
            }
            due.is("a FAULT takes no number", f.pairs(6), -11);
            due.is("tool " + i, f.pairs(i % 2 * 7), i);
        }
        due.is("a 13th", f.pairs(0), LadderForge.FULL);
        due.is("BAD ahead of FULL", f.pairs(8), LadderForge.BAD);
        due.is("a FAULT ahead of FULL", f.pairs(6), -11);
        due.is("12 are there", f.count(0), 12);
        due.is("the 12th stays", f.code(11, 0, 0), 1);
    }
}
