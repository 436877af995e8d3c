import java.util.List;

/** NAMED (part 2 of the document, promise 7): each sentence with a boundary, one method each. */
public final class EdgesNamedTest {
    private static final List<String> WORDS = List.of("stop", "in", "out", "set", "load", "store", "add", "sub",
        "get", "put", "to", "jump", "zero", "end", "plus", "minus", "byte");
    private static final int BYTE = 16;
    private static final Due due = new Due();

    public static void main(String[] args) {
        byteThatBeginsAnItem();
        byteBehindAWord();
        byteBehindAWordWithN();
        byteBehindALetter();
        between();
        everyLetter();
        placeAtTheEnds();
        placeTwice();
        colonNotRightBehind();
        wordsOfTheList();
        wordsOfNoList();
        withN();
        numbers();
        numbersTooLarge();
        zeroAhead();
        byteAlone();
        firstToken();
        endsTooEarly();
        hasNoByte();
        letterOfNoPlace();
        letterOfNoPlaceComesLast();
        longest();
        led();
        refused();
        due.end();
    }

    private static void fault(String text, int fault) {
        LadderForge f = new LadderForge();
        Due.put(f, 0, text);
        due.is("named of '" + text + "'", f.named(0), -10 - fault);
        due.is("no tool of '" + text + "'", f.count(0), 0);
    }

    private static void made(String text, int... bytes) {
        LadderForge f = new LadderForge();
        Due.put(f, 0, text);
        due.is("named of '" + text + "'", f.named(0), 0);
        due.is("bytes of '" + text + "'", f.tool(0, 0), bytes.length);
        for (int at = 0; at < bytes.length; at++) {
            due.is("'" + text + "', byte " + at, f.code(0, at, 0), bytes[at]);
        }
    }

    private static boolean hasN(int word) {
        return word >= 3 && word <= 7 || word >= 11;
    }

    private static boolean isGap(int b) {
        return b == ' ' || b == '\n';
    }

    private static boolean isLetter(int b) {
        return b >= 'A' && b <= 'Z';
    }

    private static boolean isSmall(int b) {
        return b >= 'a' && b <= 'z';
    }

    private static boolean isDigit(int b) {
        return b >= '0' && b <= '9';
    }

    private static void byteThatBeginsAnItem() {
        due.sentence("FAULT: .. of a byte that begins none (where an item begins)");
        for (int b = 0; b < 256; b++) {
            String text = (char) b + " in";
            if (isGap(b)) {
                made(text, 1);
            } else if (b == '#') {
                fault(text, 4);
            } else {
                // a letter begins a PLACE: then the word is what can't stand there
                fault(text, isLetter(b) ? 2 : 0);
            }
        }
    }

    private static void byteBehindAWord() {
        due.sentence("FAULT: .. of a byte that begins none (right behind a word)");
        for (int b = 0; b < 256; b++) {
            String text = "in" + (char) b + "in";
            if (isGap(b)) {
                made(text, 1, 1);
            } else if (b == '#') {
                made(text, 1);
            } else if (isSmall(b)) {
                fault(text, 0);
            } else {
                fault(text, isLetter(b) ? 3 : 2);
            }
        }
    }

    private static void byteBehindAWordWithN() {
        due.sentence("FAULT: .. of a byte that begins none (where n is due)");
        for (int b = 0; b < 256; b++) {
            String text = "set" + (char) b + "5";
            if (isGap(b)) {
                made(text, 3, 5);
            } else if (b == '#') {
                fault(text, 5);
            } else if (isSmall(b)) {
                fault(text, 0);
            } else if (b > '0' && b <= '9') {
                made(text, 3, 10 * (b - '0') + 5);
            } else {
                fault(text, isLetter(b) ? 4 : 3);
            }
        }
    }

    private static void byteBehindALetter() {
        due.sentence("a letter A .. Z, then : right behind it; FAULT: a : that is not right behind its letter");
        for (int b = 0; b < 256; b++) {
            String text = "A" + (char) b + ":in";
            if (isGap(b) || b == ':') {
                fault(text, 2);
            } else {
                fault(text, b == '#' ? 5 : 1);
            }
        }
    }

    private static void between() {
        due.sentence("ITEMS with blanks, line ends, remarks between");
        made(" in", 1);
        made("\nin", 1);
        made("#\nin", 1);
        made("in ", 1);
        made("in\n", 1);
        made("in#", 1);
        made("in# out", 1);
        made("in# out\nout", 1, 2);
        made("in##\n#\nout", 1, 2);
        made("in#" + Due.times("x", 197), 1);
        made("set \n #5\n 6", 3, 6);
        made("A:B:in", 1);
        made("A: B: in", 1);
        made("A:#\nB:\nset#\nB#", 3, 0);
        fault("i n", 0);
        fault("set 2 5", 6);
        fault("set 2#\n5", 7);
        for (int b = 0; b < 256; b++) {
            if (b == '\n') {
                made("in#" + (char) b + "out", 1, 2);
            } else {
                made("in#" + (char) b + "out", 1);
            }
        }
    }

    private static void everyLetter() {
        due.sentence("a PLACE: a letter A .. Z; n: .. a letter A .. Z, told as a PLACE somewhere");
        for (char letter = 'A'; letter <= 'Z'; letter++) {
            made("in in " + letter + ":set " + letter, 1, 1, 3, 2);
            made("set " + letter + " " + letter + ":in", 3, 2, 1);
            fault("set " + letter, 4);
            fault(letter + ":" + letter + ":in", 2);
        }
        StringBuilder all = new StringBuilder();
        for (char letter = 'A'; letter <= 'Z'; letter++) {
            all.append(letter).append(":to ");
        }
        LadderForge f = new LadderForge();
        due.is("all letters are told", Due.named(f, 0, all + "jump A jump Z"), 0);
        due.is("A's place", f.code(0, 27, 0), 0);
        due.is("Z's place", f.code(0, 29, 0), 25);
    }

    private static void placeAtTheEnds() {
        due.sentence("told as a PLACE somewhere: how many bytes are ahead of it");
        made("A:jump A", 11, 0);
        made("jump A A:", 11, 2);
        made("jump A A: # no more", 11, 2);
        made("jump A jump B A:B:", 11, 4, 11, 4);
        made("byte A in A:", 2, 1);
        made("byte A byte 7 A: byte A", 2, 7, 2);
        LadderForge f = new LadderForge();
        due.is("behind 98 bytes", Due.named(f, 0, Due.times("set1", 48) + "jumpA A:"), 0);
        due.is("is 98", f.code(0, 97, 0), 98);
    }

    private static void placeTwice() {
        due.sentence("a PLACE .. (each once); FAULT: (a PLACE told twice, too)");
        fault("A:A:in", 2);
        fault("A:in A:", 5);
        fault("A: in B: in A: in B:", 12);
        fault("Z:in # Z:\n Z:", 11);
        made("A:B:C:in", 1);
        // told twice, the letter is what can't stand there, whatever is behind it
        fault("A:in A", 5);
        fault("A:in A :", 5);
    }

    private static void colonNotRightBehind() {
        due.sentence("FAULT: .. a : that is not right behind its letter");
        fault("A :in", 2);
        fault("A\n:in", 2);
        fault("A# \n:in", 4);
        fault("A::in", 2);
        fault("A: :in", 3);
        fault(":in", 0);
        fault("in:", 2);
        fault("in :", 3);
        fault("set :", 4);
        fault("set A:", 5);
        fault("set 5:", 5);
        fault("A:set A:", 7);
        fault("A", 1);
        fault("A ", 2);
        fault("in A#:", 6);
    }

    private static void wordsOfTheList() {
        due.sentence("a word: stop, in, out, .. minus (ORDERS 0 to 15)");
        for (int word = 0; word < BYTE; word++) {
            if (hasN(word)) {
                made(WORDS.get(word) + " 200", word, 200);
                made(WORDS.get(word) + "7 in", word, 7, 1);
            } else {
                made(WORDS.get(word), word);
                made(WORDS.get(word) + " in", word, 1);
            }
        }
    }

    private static void wordsOfNoList() {
        due.sentence("FAULT: .. a word that is none of these .. that TOKEN's");
        for (String word : WORDS) {
            for (int cut = 1; cut < word.length(); cut++) {
                fault("in " + word.substring(0, cut) + " 5", 3);
                fault("in " + word.substring(cut) + " 5", 3);
            }
            for (char more = 'a'; more <= 'z'; more++) {
                fault("in " + word + more + " 5", 3);
            }
            fault(word.toUpperCase(), 1);
            fault("in " + word + word, 3);
        }
        for (char alone = 'a'; alone <= 'z'; alone++) {
            fault("" + alone, 0);
        }
        fault(Due.times("a", 200), 0);
        fault("in " + Due.times("stop", 49), 3);
    }

    private static void withN() {
        due.sentence("those with n have an n");
        for (int word = 0; word <= BYTE; word++) {
            String w = WORDS.get(word);
            if (hasN(word)) {
                fault(w, w.length());
                fault(w + " ", w.length() + 1);
                fault(w + " in", w.length() + 1);
                fault(w + " 5 5", w.length() + 3);
            } else {
                fault(w + " 5", w.length() + 1);
                fault(w + " A", w.length() + 2);
                fault(w + "5", w.length());
            }
        }
    }

    private static void numbers() {
        due.sentence("a NUMBER 0 .. 255");
        for (int n = 0; n < 256; n++) {
            made("set " + n, 3, n);
            made("byte " + n, n);
        }
    }

    private static void numbersTooLarge() {
        due.sentence("FAULT: .. a NUMBER above 255 .. that TOKEN's");
        for (int n = 256; n < 1100; n++) {
            fault("set " + n, 4);
        }
        String[] large = {"2560", "65536", "65541", "2147483648", "4294967296", "4294967301",
            "18446744073709551616", "18446744073709551621", Due.times("1", 196), "1" + Due.times("0", 195)};
        for (String n : large) {
            fault("set " + n, 4);
            fault("in " + n, 3);
        }
        fault("byte 256", 5);
        fault("set 256 $", 4);
    }

    private static void zeroAhead() {
        due.sentence("a NUMBER 0 .. 255, no 0 ahead of others; FAULT: .. with a 0 ahead, that TOKEN's");
        made("set 0", 3, 0);
        made("set 100", 3, 100);
        for (int n = 0; n < 256; n++) {
            fault("set 0" + n, 4);
        }
        fault("set 000", 4);
        fault("set 0000000005", 4);
        fault("byte 00", 5);
    }

    private static void byteAlone() {
        due.sentence("byte, then n likewise (that byte alone)");
        made("byte 0", 0);
        made("byte 255", 255);
        made("byte 16 byte 15", 16, 15);
        made("byte A A:", 1);
        fault("byte", 4);
        fault("byte byte 5", 5);
        fault("byte stop", 5);
        fault("byte :", 5);
        fault("byte A", 5);
    }

    private static void firstToken() {
        due.sentence("FAULT: the place of the first byte of the first TOKEN (letter, : , word of a .. z, NUMBER) that can't stand there");
        fault("5", 0);
        fault("in 5", 3);
        fault("in 12345", 3);
        fault("set in", 4);
        fault("set zero 5", 4);
        fault("A in", 2);
        fault("A 5", 2);
        fault("A B:in", 2);
        fault("AB:in", 1);
        fault("set 5 A 5", 8);
        fault("in 5 $ :", 3);
        fault("in $ 5 :", 3);
        fault("in : 5 $", 3);
        fault("in sett 256", 3);
        fault("set -1", 4);
        fault("set 5a", 5);
        fault("set 5A", 6);
        fault(Due.times(" ", 199) + ":", 199);
        fault(Due.times(" ", 199) + "$", 199);
        fault(Due.times(" ", 199) + "5", 199);
    }

    private static void endsTooEarly() {
        due.sentence("FAULT: .. the text's length, if it ends too early");
        fault("set", 3);
        fault("set ", 4);
        fault("set # 5", 7);
        fault("set\n", 4);
        fault("in A", 4);
        fault("in A ", 5);
        fault("in byte", 7);
        fault(Due.times(" ", 197) + "set", 200);
        fault(Due.times(" ", 199) + "A", 200);
    }

    private static void hasNoByte() {
        due.sentence("FAULT: .. the text's length, if it .. has no byte");
        fault("", 0);
        fault(" ", 1);
        fault("\n", 1);
        fault("#", 1);
        fault("# in", 4);
        fault("A:", 2);
        fault("A: B:C: # in\n", 13);
        fault(Due.times(" ", 200), 200);
        LadderForge f = new LadderForge();
        for (int i = 0; i < 8; i++) {
            due.is("empty at first, text " + i, f.named(i), -10);
        }
    }

    private static void letterOfNoPlace() {
        due.sentence("FAULT: .. the first letter used as n that is no PLACE's");
        fault("set B", 4);
        fault("byte B", 5);
        fault("A: set A set B", 13);
        fault("set B set C C:", 4);
        fault("set C set B C:", 10);
        fault("set C set B set D C: # B:", 10);
        fault("A:set B set A", 6);
    }

    private static void letterOfNoPlaceComesLast() {
        due.sentence("FAULT: .. if there is none of these, that of the first letter used as n that is no PLACE's");
        fault("set B $", 6);
        fault("set B sett", 6);
        fault("set B set 256", 10);
        fault("set B set 01", 10);
        fault("set B :", 6);
        fault("set B 5", 6);
        fault("set B A:A:", 8);
        fault("set B set", 9);
        fault("set B A", 7);
        made("set B B:", 3, 2);
    }

    private static void longest() {
        due.sentence("TEXTS (200 bytes at most each)");
        LadderForge f = new LadderForge();
        due.is("100 bytes of 200", Due.named(f, 0, Due.times("set9", 50)), 0);
        due.is("100 bytes", f.tool(0, 0), 100);
        due.is("the 100th", f.code(0, 99, 0), 9);
        due.is("is LED", f.code(0, 99, 1), 199);
        due.is("no 101st", f.code(0, 100, 0), LadderForge.BAD);
        due.is("one word at the end", Due.named(f, 1, Due.times(" ", 198) + "in"), 1);
        due.is("is LED", f.code(1, 0, 1), 198);
        due.is("a place at the end", Due.named(f, 2, "jump Z" + Due.times(" ", 192) + "Z:"), 2);
        due.is("is 2", f.code(2, 1, 0), 2);
    }

    private static void led() {
        due.sentence("A byte of such a TOOL is LED to the place .. of the word; of n");
        LadderForge f = new LadderForge();
        due.is("named", Due.named(f, 0, "A:in set# 9\n 77 byte 200 jump A#\nto"), 0);
        int[] want = {2, 5, 13, 21, 25, 30, 33};
        for (int at = 0; at < want.length; at++) {
            due.is("led " + at, f.code(0, at, 1), want[at]);
        }
        due.is("behind the last", f.code(0, want.length, 1), LadderForge.BAD);
        due.is("ahead of the first", f.code(0, -1, 1), LadderForge.BAD);
    }

    private static void refused() {
        due.sentence("A TOOL by NAMED of a TEXT: its number; -10 less FAULT. BAD; FULL.");
        LadderForge f = new LadderForge();
        int[] none = {-1, 8, Integer.MIN_VALUE, Integer.MAX_VALUE};
        Due.put(f, 0, "in");
        Due.put(f, 7, "to");
        Due.put(f, 6, "in set B");
        for (int i = 0; i < 12; i++) {
            for (int text : none) {
                due.is("named(" + text + ")", f.named(text), LadderForge.BAD);
            }
            due.is("a FAULT takes no number", f.named(6), -17);
            due.is("tool " + i, f.named(i % 2 * 7), i);
        }
        due.is("a 13th", f.named(0), LadderForge.FULL);
        due.is("BAD ahead of FULL", f.named(8), LadderForge.BAD);
        due.is("a FAULT ahead of FULL", f.named(6), -17);
        due.is("12 are there", f.count(0), 12);
        due.is("the 12th stays", f.code(11, 0, 0), 10);
    }
}
