/** Promises 24 to 28: KEPT SESSIONS, THE BOUND, beginning again, and what is told. */
public final class KeptTest {
    private static final Check CHECK = new Check();

    public static void main(String[] args) {
        keepAndUndo();
        wholeSession();
        bits();
        weight();
        atMostEight();
        eightOfManyWeights();
        eldestGo();
        full();
        bound();
        boundWithoutStory();
        heavy();
        restart();
        told();
        CHECK.finish();
    }

    private static void keepAndUndo() {
        ZSaves x = Rows.withStory(1, 2, 3);
        CHECK.due("25: none", x.undo(), ZSaves.NONE);
        CHECK.due("24: keep", x.keep(), 1);
        x.poke(0, 50);
        CHECK.due("24: keep", x.keep(), 2);
        CHECK.due("24: the session stays", x.peek(0), 50);
        x.poke(0, 60);
        CHECK.due("25: undo", x.undo(), 1);
        CHECK.due("25: the latest", x.peek(0), 50);
        x.poke(0, 70);
        CHECK.due("25: undo", x.undo(), 0);
        CHECK.due("25: the eldest", x.peek(0), 1);
        CHECK.due("25: none is left", x.undo(), ZSaves.NONE);
        CHECK.due("24: and again", x.keep(), 1);
    }

    private static void wholeSession() {
        ZSaves x = Rows.withStory(Rows.zeros(600));
        x.poke(0, 1);
        x.poke(599, 255);
        x.push(1);
        x.jump(0xABCDEF);
        x.call(0xFEDCBA, ZSaves.NONE, 7, 15);
        x.local(14, 65535);
        x.push(2);
        x.call(1, 255, 0, 0);
        x.jump(2);
        long print = x.print();
        x.keep();
        x.leave();
        x.pop();
        x.local(14, 1);
        x.leave();
        x.pop();
        x.poke(300, 3);
        CHECK.due("25: undo", x.undo(), 0);
        CHECK.due("25: as it was", x.print(), print);
        CHECK.due("25: pc", x.told(1), 2);
        CHECK.due("25: thrown away", x.frame(1, 1), ZSaves.NONE);
        CHECK.due("25: result", x.frame(2, 1), 255);
        CHECK.due("25: back", x.frame(1, 0), 0xABCDEF);
    }

    private static void bits() {
        ZSaves x = Rows.withStory(Rows.filled(18, 0x10));
        x.poke(17, 0xF1);
        x.keep();
        x.poke(17, 0x0E);
        x.undo();
        CHECK.due("25: the bits stay", x.peek(17), 0xF2);
        x.restart();
        CHECK.due("27: the bits stay", x.peek(17), 0x12);
        CHECK.due("28: they weigh", x.told(5), 3 + 8);
        ZSaves y = Rows.withStory(Rows.filled(17, 0x10));
        y.poke(16, 0x13);
        y.restart();
        CHECK.due("27: byte 16 has none", y.peek(16), 0x10);
    }

    private static void weight() {
        ZSaves x = Rows.withStory(Rows.zeros(300));
        CHECK.due("28: a session that begins", x.told(5), 8);
        x.poke(299, 1);
        CHECK.due("28: two runs and a byte", x.told(5), 8 + 5);
        x.poke(0, 1);
        CHECK.due("28: a byte more", x.told(5), 8 + 6);
        x.push(1);
        CHECK.due("28: a word", x.told(5), 8 + 8);
        x.call(0, 0, 0, 3);
        CHECK.due("28: a frame", x.told(5), 8 + 22);
        CHECK.due("28: nothing is kept", x.told(4), 0);
        x.keep();
        x.restart();
        x.keep();
        CHECK.due("28: both", x.told(4), 30 + 8);
        CHECK.due("28: how many", x.told(3), 2);
        x.undo();
        CHECK.due("28: one", x.told(4), 30);
    }

    private static void atMostEight() {
        ZSaves x = Rows.withStory(0);
        for (int i = 1; i <= 8; i++) {
            x.poke(0, i);
            CHECK.due("24: keep", x.keep(), i);
        }
        for (int i = 9; i <= 11; i++) {
            x.poke(0, i);
            CHECK.due("24: the eldest goes", x.keep(), 8);
        }
        for (int i = 11; i >= 4; i--) {
            CHECK.due("25: undo", x.undo(), i - 4);
            CHECK.due("25: peek", x.peek(0), i);
        }
        CHECK.due("25: the eldest are gone", x.undo(), ZSaves.NONE);
    }

    private static void eightOfManyWeights() {
        ZSaves x = Rows.withStory(Rows.zeros(100));
        long[] prints = new long[10];
        for (int i = 0; i < 10; i++) {
            x.poke(99 - 3 * i, 1 + i);
            x.push(i);
            x.jump(i);
            prints[i] = x.print();
            CHECK.due("24: keep", x.keep(), Math.min(i + 1, 8));
        }
        for (int i = 9; i >= 2; i--) {
            x.restart();
            CHECK.due("25: undo", x.undo(), i - 2);
            CHECK.due("25: as it was", x.print(), prints[i]);
            CHECK.due("25: pc", x.told(1), i);
        }
        CHECK.due("28: nothing weighs", x.told(4), 0);
        for (int i = 0; i < 8; i++) {
            x.keep();
        }
        x.bound(0);
        CHECK.due("26: all eight go", x.told(3), 0);
    }

    private static void eldestGo() {
        ZSaves x = Rows.withStory(0);
        x.bound(40);
        x.keep();
        x.push(1);
        x.keep();
        x.push(2);
        CHECK.due("24: 8 + 10 + 12", x.keep(), 3);
        CHECK.due("28: weigh", x.told(4), 30);
        x.pop();
        CHECK.due("24: just 40", x.keep(), 4);
        x.pop();
        x.keep();
        CHECK.due("24: 8 more, 8 less", x.told(4), 40);
        CHECK.due("24: how many", x.told(3), 4);
        for (int i = 0; i < 12; i++) {
            x.push(9);
        }
        CHECK.due("24: several go", x.keep(), 2);
        CHECK.due("28: 8 + 32", x.told(4), 8 + 32);
        x.undo();
        CHECK.due("25: the newest", x.frame(0, 4), 12);
        x.undo();
        CHECK.due("25: the one before", x.frame(0, 4), 0);
    }

    private static void full() {
        ZSaves x = Rows.withStory(0);
        x.keep();
        x.bound(10);
        x.push(1);
        CHECK.due("24: as much as the bound", x.keep(), 1);
        CHECK.due("28: weighs", x.told(4), 10);
        x.push(1);
        CHECK.due("24: alone too heavy", x.keep(), ZSaves.FULL);
        CHECK.due("24: nothing changed", x.told(3), 1);
        CHECK.due("24: nothing changed", x.told(4), 10);
        x.bound(0);
        CHECK.due("26: all go", x.told(3), 0);
        x.restart();
        CHECK.due("24: none fits", x.keep(), ZSaves.FULL);
    }

    private static void bound() {
        ZSaves x = Rows.withStory(0);
        CHECK.due("26: at first", x.bound(10000), 1000);
        CHECK.due("26: what it was", x.bound(24), 10000);
        CHECK.due("26: above", x.bound(10001), ZSaves.BAD);
        CHECK.due("26: below", x.bound(-1), ZSaves.BAD);
        for (int i = 1; i <= 3; i++) {
            x.jump(i);
            x.keep();
        }
        CHECK.due("28: three", x.told(3), 3);
        CHECK.due("26: just enough", x.bound(24), 24);
        CHECK.due("28: three", x.told(3), 3);
        x.bound(23);
        CHECK.due("26: the eldest goes at once", x.told(3), 2);
        CHECK.due("28: weigh", x.told(4), 16);
        x.bound(1000);
        CHECK.due("26: it does not come back", x.told(3), 2);
        x.undo();
        x.undo();
        CHECK.due("26: the eldest went", x.told(1), 2);
    }

    private static void boundWithoutStory() {
        ZSaves x = new ZSaves();
        CHECK.due("26: without a story", x.bound(7), 1000);
        CHECK.due("26: bad", x.bound(-1), ZSaves.BAD);
        Rows.onTape(x, Rows.zeros(11));
        x.story();
        CHECK.due("26: it holds for the story that comes", x.keep(), ZSaves.FULL);
    }

    /** The heaviest that can be, under the largest bound. */
    private static void heavy() {
        ZSaves x = Rows.withStory(Rows.zeros(1000));
        for (int i = 1; i < 1000; i += 2) {
            x.poke(i, i & 255 | 1);
        }
        for (int f = 0; f < 20; f++) {
            for (int i = 0; i < 40; i++) {
                x.push(f * 40 + i);
            }
            x.call(f, f, 7, 15);
        }
        int weight = 1500 + 88 + 19 * 118;
        CHECK.due("24: above the first bound", x.keep(), ZSaves.FULL);
        x.bound(10000);
        long print = x.print();
        CHECK.due("24: keep", x.keep(), 1);
        CHECK.due("24: keep", x.keep(), 2);
        CHECK.due("24: a third is too much", x.keep(), 2);
        CHECK.due("28: weigh", x.told(4), 2 * weight);
        x.restart();
        CHECK.due("25: undo", x.undo(), 1);
        CHECK.due("25: as it was", x.print(), print);
        x.restart();
        for (int i = 2; i <= 8; i++) {
            CHECK.due("24: light ones beside", x.keep(), i);
        }
        CHECK.due("24: the heavy one goes", x.keep(), 8);
        CHECK.due("28: weigh, with the bit that stays", x.told(4), 8 * (8 + 3));
    }

    private static void restart() {
        ZSaves x = Rows.withStory(1, 2, 3);
        long print = x.print();
        x.keep();
        x.poke(2, 9);
        x.push(4);
        x.jump(9);
        x.call(1, 2, 3, 4);
        x.push(4);
        CHECK.due("27: restart", x.restart(), 1);
        CHECK.due("27: as it began", x.print(), print);
        CHECK.due("27: frames", x.told(2), 1);
        CHECK.due("27: pc", x.told(1), 0);
        CHECK.due("27: what is kept stays", x.told(3), 1);
        CHECK.due("27: an empty stack", x.pop(), ZSaves.NONE);
    }

    private static void told() {
        ZSaves x = Rows.withStory(1, 2, 3);
        int[] stranger = Rows.chunk(Rows.row(9, 9, 9, 9), 1, 2);
        Rows.onTape(x, Rows.file(Rows.headChunk(9), Rows.chunk(Rows.B, 6), Rows.framesChunk(), stranger));
        x.restore();
        x.keep();
        x.call(100, 1, 1, 1);
        int out = x.save(true);
        x.write();
        x.push(1);
        int later = x.save(true);
        x.feed(1, 1, 1, 1, 1);
        int[] due = {3, 100, 2, 1, 9, 1 + 8 + 8 + 2 + 2, 1, 20, later, out};
        for (int what = 0; what < due.length; what++) {
            CHECK.due("28: told(" + what + ")", x.told(what), due[what]);
        }
        CHECK.due("28: below", x.told(-1), ZSaves.BAD);
        CHECK.due("28: above", x.told(10), ZSaves.BAD);
        CHECK.due("28: far away", x.told(Integer.MIN_VALUE), ZSaves.BAD);
    }
}
