/** Promises 1 to 6: a new object, THE TAPE, THE OUT, and a STORY. */
public final class TapeTest {
    private static final Check CHECK = new Check();

    public static void main(String[] args) {
        newObject();
        withoutStory();
        feed();
        end();
        outAndBack();
        backOfTooMuch();
        story();
        storyOfEdges();
        storyAgain();
        CHECK.finish();
    }

    private static void newObject() {
        ZSaves x = new ZSaves();
        int[] due = {0, 0, 0, 0, 0, 0, 0, 0, 0, ZSaves.NONE};
        for (int what = 0; what < due.length; what++) {
            CHECK.due("1: told(" + what + ")", x.told(what), due[what]);
        }
        CHECK.due("1: told(-1)", x.told(-1), ZSaves.BAD);
        CHECK.due("1: told(10)", x.told(10), ZSaves.BAD);
        CHECK.due("1: out(0)", x.out(0), ZSaves.BAD);
        CHECK.due("1: load()", x.load(), ZSaves.NONE);
        CHECK.due("1: why(0)", x.why(0), 0);
        CHECK.due("1: why(1)", x.why(1), ZSaves.NONE);
        CHECK.due("1: chunk(0, 0)", x.chunk(0, 0), ZSaves.NONE);
        CHECK.due("1: back()", x.back(), 0);
        CHECK.due("1: bound(5)", x.bound(5), 1000);
    }

    /** STATE comes ahead of whatever else is wrong. */
    private static void withoutStory() {
        ZSaves x = new ZSaves();
        CHECK.due("1: poke", x.poke(-1, 999), ZSaves.STATE);
        CHECK.due("1: peek", x.peek(-1), ZSaves.STATE);
        CHECK.due("1: jump", x.jump(-1), ZSaves.STATE);
        CHECK.due("1: call", x.call(-1, -1, -1, -1), ZSaves.STATE);
        CHECK.due("1: leave", x.leave(), ZSaves.STATE);
        CHECK.due("1: local", x.local(-1, -1), ZSaves.STATE);
        CHECK.due("1: push", x.push(-1), ZSaves.STATE);
        CHECK.due("1: pop", x.pop(), ZSaves.STATE);
        CHECK.due("1: frame", x.frame(-1, -1), ZSaves.STATE);
        CHECK.due("1: print", x.print(), 0);
        CHECK.due("1: save", x.save(false), ZSaves.STATE);
        CHECK.due("1: keep", x.keep(), ZSaves.STATE);
        CHECK.due("1: undo", x.undo(), ZSaves.STATE);
        CHECK.due("1: restart", x.restart(), ZSaves.STATE);
        x.feed(1, 2, 3, 4, 5);
        CHECK.due("18: restore", x.restore(), ZSaves.STATE);
        CHECK.due("18: the tape behind it", x.told(7), 0);
        CHECK.due("19: a refused restore is not the latest", x.why(1), ZSaves.NONE);
    }

    private static void feed() {
        ZSaves x = new ZSaves();
        CHECK.due("2: feed", x.feed(0x01020304, 0xFFFEFDFC, 0, 7, 0x80000000), 20);
        CHECK.due("2: a second", x.feed(1, 2, 3, 4, 5), 40);
        x.end(19);
        CHECK.due("2: behind what was left", x.feed(0x0A0B0C0D, 0, 0, 0, 0), 39);
        x.end(0);
        for (int i = 1; i <= 100; i++) {
            CHECK.due("2: feed " + i, x.feed(i, i, i, i, i), 20 * i);
        }
        CHECK.due("2: no room", x.feed(1, 1, 1, 1, 1), ZSaves.FULL);
        x.end(1981);
        CHECK.due("2: one too many", x.feed(1, 1, 1, 1, 1), ZSaves.FULL);
        CHECK.due("2: nothing changed", x.told(7), 1981);
        x.end(1980);
        CHECK.due("2: the last twenty", x.feed(1, 1, 1, 1, 1), 2000);
    }

    private static void end() {
        ZSaves x = new ZSaves();
        CHECK.due("3: of nothing", x.end(0), 0);
        CHECK.due("3: more than there are", x.end(1), ZSaves.BAD);
        x.feed(1, 2, 3, 4, 5);
        CHECK.due("3: below 0", x.end(-1), ZSaves.BAD);
        CHECK.due("3: above", x.end(21), ZSaves.BAD);
        CHECK.due("3: all", x.end(20), 0);
        CHECK.due("3: some", x.end(13), 7);
        CHECK.due("3: told", x.told(7), 13);
        CHECK.due("3: none", x.end(0), 13);
    }

    private static void outAndBack() {
        ZSaves x = Rows.withStory(9);
        int n = x.save(true);
        int[] due = Rows.file(Rows.headChunk(0), Rows.chunk(Rows.C, 9), Rows.framesChunk());
        CHECK.due("4: how many", n, due.length);
        for (int i = 0; i < due.length; i++) {
            CHECK.due("4: out(" + i + ")", x.out(i), due[i]);
        }
        CHECK.due("4: below", x.out(-1), ZSaves.BAD);
        CHECK.due("4: behind", x.out(n), ZSaves.BAD);
        x.feed(1, 1, 1, 1, 1);
        CHECK.due("5: back", x.back(), n);
        CHECK.due("5: the tape", x.told(7), n);
        CHECK.due("5: the out stays", x.told(8), n);
        CHECK.due("5: it can be read", x.restore(), 1);
        CHECK.due("5: and again", x.back(), n);
    }

    private static void backOfTooMuch() {
        ZSaves x = Rows.withStory(Rows.zeros(1000));
        x.save(true);
        CHECK.due("5: 1,000 bytes and a frame", x.back(), 12 + 22 + 1008 + 16);
        fill(x, 471);
        CHECK.due("17: just 2,000", x.save(true), 2000);
        CHECK.due("5: just 2,000", x.back(), 2000);
        x.push(1);
        CHECK.due("17: above 2,000", x.save(true), 2002);
        CHECK.due("5: above 2,000", x.back(), ZSaves.FULL);
        CHECK.due("5: nothing changed", x.told(7), 2000);
        CHECK.due("5: nor the out", x.told(8), 2002);
    }

    /** So many times two bytes more in D: a FRAME is worth four WORDS. */
    private static void fill(ZSaves x, int words) {
        int left = words;
        while (left > 0) {
            if (x.push(1) == ZSaves.FULL) {
                x.call(0, 0, 0, 0);
                left -= 4;
            } else {
                left--;
            }
        }
    }

    private static void story() {
        ZSaves x = new ZSaves();
        Rows.onTape(x, Rows.join(Rows.HEAD, Rows.row(21, 22, 23)));
        CHECK.due("6: story", x.story(), 3);
        CHECK.due("6: the tape is empty", x.told(7), 0);
        CHECK.due("6: memory", x.told(0), 3);
        CHECK.due("6: its first byte", x.peek(0), 21);
        CHECK.due("6: its last byte", x.peek(2), 23);
        CHECK.due("6: pc", x.told(1), 0);
        CHECK.due("6: frames", x.told(2), 1);
        for (int what = 0; what <= 4; what++) {
            CHECK.due("6: frame(0, " + what + ")", x.frame(0, what), 0);
        }
        CHECK.due("6: no word", x.frame(0, 10), ZSaves.NONE);
    }

    private static void storyOfEdges() {
        ZSaves x = new ZSaves();
        CHECK.due("6: of nothing", x.story(), ZSaves.BAD);
        Rows.onTape(x, Rows.HEAD);
        CHECK.due("6: a head alone", x.story(), ZSaves.BAD);
        CHECK.due("6: the tape is empty though refused", x.told(7), 0);
        CHECK.due("6: still none", x.peek(0), ZSaves.STATE);
        Rows.onTape(x, Rows.zeros(11));
        CHECK.due("6: one byte", x.story(), 1);
        Rows.onTape(x, Rows.filled(1010, 5));
        CHECK.due("6: 1,000 bytes", x.story(), 1000);
        Rows.onTape(x, Rows.filled(1011, 6));
        CHECK.due("6: 1,001 bytes", x.story(), ZSaves.BAD);
        CHECK.due("6: the one before stays", x.peek(999), 5);
        CHECK.due("6: the tape is empty", x.told(7), 0);
    }

    private static void storyAgain() {
        ZSaves x = Rows.withStory(Rows.filled(20, 255));
        Rows.onTape(x, Rows.file(Rows.headChunk(77), Rows.chunk(Rows.B), Rows.framesChunk(), Rows.chunk(Rows.row(1, 2, 3, 4), 5)));
        CHECK.due("6: a file with a stranger", x.restore(), 1);
        x.keep();
        x.call(5, 6, 7, 8);
        int out = x.save(false);
        x.write();
        x.cut(3);
        x.bound(500);
        Rows.onTape(x, Rows.first(Rows.HEAD, 12));
        x.restore();
        Rows.onTape(x, Rows.join(Rows.HEAD, Rows.zeros(18)));
        CHECK.due("6: another story", x.story(), 18);
        CHECK.due("6: its own bits", x.peek(17), 0);
        int[] due = {18, 0, 1, 0, 0, 8, 0, 0, out, out};
        for (int what = 0; what < due.length; what++) {
            CHECK.due("6: told(" + what + ")", x.told(what), due[what]);
        }
        CHECK.due("6: undo", x.undo(), ZSaves.NONE);
        CHECK.due("6: the bound stays", x.bound(500), 500);
        CHECK.due("6: why stays", x.why(0), 2);
        CHECK.due("6: the chunks of the latest save stay", x.chunk(3, 0), 0x01020304);
        CHECK.due("6: the cut stays", x.write(), 0);
    }
}
