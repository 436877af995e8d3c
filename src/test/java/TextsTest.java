/** Promises 1 to 5: a new object, type, clear, text, read. */
public final class TextsTest {
    private static final Due due = new Due();

    public static void main(String[] args) {
        newObject();
        typing();
        typingTooMuch();
        clearing();
        texts();
        due.end();
    }

    private static void newObject() {
        LadderForge f = new LadderForge();
        for (int what = 0; what <= 4; what++) {
            due.is("new count(" + what + ")", f.count(what), 0);
        }
        for (int what = 0; what <= 5; what++) {
            due.is("new ran(" + what + ")", f.ran(what), 0);
        }
        for (int i = 0; i < 8; i++) {
            due.is("new read(" + i + ", 0)", f.read(i, 0), LadderForge.BAD);
        }
        due.is("new tape(0, 0)", f.tape(0, 0), LadderForge.BAD);
        due.is("new tape(0, 1)", f.tape(0, 1), 0);
        due.is("new tape(255, 1)", f.tape(255, 1), 0);
        due.is("new stale", f.stale(), 0);
        due.is("new least(0)", f.least(0), 0);
        due.is("new least(1)", f.least(1), LadderForge.BAD);
        due.is("new trace", f.trace(), 0);
        due.is("new tool(0, 0)", f.tool(0, 0), LadderForge.BAD);
        due.is("new clear", f.clear(), 0);
    }

    private static void typing() {
        LadderForge f = new LadderForge();
        due.is("type 8 bytes", f.type(0xff01fe02fd03fc04L, 8), 8);
        due.is("type the lowest 3", f.type(0x1122334455667788L, 3), 11);
        due.is("type of -1", f.type(-1L, 1), 12);
        due.is("type n 0", f.type(1, 0), LadderForge.BAD);
        due.is("type n 9", f.type(1, 9), LadderForge.BAD);
        due.is("type n -1", f.type(1, -1), LadderForge.BAD);
        due.is("type n least int", f.type(1, Integer.MIN_VALUE), LadderForge.BAD);
        due.is("count typed", f.count(2), 12);
        due.is("text", f.text(3), 12);
        int[] want = {0xff, 1, 0xfe, 2, 0xfd, 3, 0xfc, 4, 0x66, 0x77, 0x88, 0xff};
        for (int at = 0; at < want.length; at++) {
            due.is("read(3, " + at + ")", f.read(3, at), want[at]);
        }
        due.is("read behind the end", f.read(3, 12), LadderForge.BAD);
    }

    private static void typingTooMuch() {
        LadderForge f = new LadderForge();
        for (int i = 1; i <= 24; i++) {
            due.is("type the " + i + "th eight", f.type(i, 8), 8 * i);
        }
        due.is("type up to 199", f.type(7, 7), 199);
        due.is("type two more", f.type(7, 2), LadderForge.FULL);
        due.is("BAD ahead of FULL", f.type(7, 9), LadderForge.BAD);
        due.is("FULL changes nothing", f.count(2), 199);
        due.is("type one more", f.type(0x102, 1), 200);
        due.is("type when 200 are there", f.type(1, 1), LadderForge.FULL);
        due.is("text of 200", f.text(7), 200);
        due.is("last byte", f.read(7, 199), 2);
        due.is("behind the last byte", f.read(7, 200), LadderForge.BAD);
        due.is("type anew", f.type(5, 1), 1);
    }

    private static void clearing() {
        LadderForge f = new LadderForge();
        f.type(0x616263, 3);
        due.is("clear", f.clear(), 3);
        due.is("clear again", f.clear(), 0);
        due.is("type behind clear", f.type(9, 1), 1);
        due.is("text behind clear", f.text(0), 1);
        due.is("read behind clear", f.read(0, 0), 9);
        due.is("clear leaves texts", f.clear(), 0);
        due.is("read behind the second clear", f.read(0, 0), 9);
    }

    private static void texts() {
        LadderForge f = new LadderForge();
        f.type(0x6162, 2);
        due.is("text(-1)", f.text(-1), LadderForge.BAD);
        due.is("text(8)", f.text(8), LadderForge.BAD);
        due.is("a refused text keeps what is typed", f.count(2), 2);
        due.is("text(0)", f.text(0), 2);
        due.is("text empties what is typed", f.count(2), 0);
        due.is("text(7) of nothing", f.text(7), 0);
        f.type(0x63, 1);
        due.is("text(0) anew", f.text(0), 1);
        due.is("a shorter text", f.read(0, 0), 0x63);
        due.is("nothing of the longer one", f.read(0, 1), LadderForge.BAD);
        due.is("read(0, -1)", f.read(0, -1), LadderForge.BAD);
        due.is("read(-1, 0)", f.read(-1, 0), LadderForge.BAD);
        due.is("read(8, 0)", f.read(8, 0), LadderForge.BAD);
        due.is("text(0) of nothing", f.text(0), 0);
        due.is("read of nothing", f.read(0, 0), LadderForge.BAD);
    }
}
