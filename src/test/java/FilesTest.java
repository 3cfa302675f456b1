import java.util.Arrays;

/** Promises 17, 18 and 20 to 23: FILES, the disk, STRANGERS. */
public final class FilesTest {
    private static final Check CHECK = new Check();
    private static final int[] NAME = {1, 2, 3, 4};

    public static void main(String[] args) {
        savedFrames();
        savedRuns();
        savedMostRuns();
        savedPlain();
        largest();
        restored();
        restoredRuns();
        restoredLargest();
        bits();
        strangers();
        strangersAtTheirMost();
        strangersManyTimes();
        thrownAway();
        seconds();
        order();
        chunk();
        disk();
        diskOfTooMuch();
        cut();
        CHECK.finish();
    }

    private static void same(String what, int[] got, int[] want) {
        CHECK.holds(what + ": " + Arrays.toString(got) + ", due is " + Arrays.toString(want), Arrays.equals(got, want));
    }

    private static int restored(ZSaves x, int[]... chunks) {
        Rows.onTape(x, Rows.file(chunks));
        return x.restore();
    }

    private static void savedFrames() {
        ZSaves x = Rows.withStory(9, 9);
        x.push(0x0102);
        x.jump(0x030405);
        x.call(0x060708, 200, 7, 2);
        x.local(1, 0x1112);
        x.push(0x1314);
        x.call(0x090A0B, ZSaves.NONE, 1, 15);
        x.jump(0xFFFFFE);
        int[] frames = Rows.join(
            Rows.row(0, 0, 0, 0, 0, 0, 0, 1, 1, 2),
            Rows.row(3, 4, 5, 2, 200, 127, 0, 1, 0, 0, 0x11, 0x12, 0x13, 0x14),
            Rows.row(6, 7, 8, 31, 0, 1, 0, 0), Rows.zeros(30));
        int[] due = Rows.file(Rows.headChunk(0xFFFFFE), Rows.chunk(Rows.B), Rows.chunk(Rows.D, frames));
        CHECK.due("17: save", x.save(false), due.length);
        same("17: the file", Rows.outOf(x), due);
        long print = x.print();
        x.restart();
        x.back();
        CHECK.due("18: restore", x.restore(), 1);
        CHECK.due("18: as it was", x.print(), print);
        CHECK.due("18: thrown away", x.frame(2, 1), ZSaves.NONE);
        CHECK.due("18: arguments", x.frame(1, 2), 7);
    }

    private static void savedRuns() {
        ZSaves x = Rows.withStory(Rows.filled(1000, 0xF0));
        x.poke(0, 0x0F);
        x.poke(2, 0xF1);
        x.poke(2 + 257, 0xF0 ^ 3);
        x.poke(260 + 256, 0xF0 ^ 4);
        x.poke(517 + 257, 0xF0 ^ 5);
        x.save(false);
        int[] runs = {255, 0, 0, 1, 0, 255, 3, 0, 255, 4, 0, 255, 0, 0, 5};
        int[] due = Rows.file(Rows.headChunk(0), Rows.chunk(Rows.B, runs), Rows.framesChunk());
        same("17: runs", Rows.outOf(x), due);
        x.poke(999, 1);
        x.save(false);
        CHECK.due("17: the last byte", x.chunk(1, 2), runs.length + 3);
        x.restart();
        CHECK.due("17: nothing changed, 12 + 22 + 8 + 16", x.save(false), 58);
    }

    private static void savedMostRuns() {
        ZSaves x = Rows.withStory(Rows.zeros(1000));
        for (int i = 1; i < 1000; i += 2) {
            x.poke(i, 1);
        }
        CHECK.due("17: a run of one each", x.save(false), 12 + 22 + 1508 + 16);
        CHECK.due("17: so many", x.chunk(1, 2), 1500);
        CHECK.due("28: its weight", x.told(5), 1508);
    }

    private static void savedPlain() {
        ZSaves x = Rows.withStory(1, 2, 3);
        x.poke(1, 77);
        x.save(true);
        same("17: plain", Rows.outOf(x), Rows.file(Rows.headChunk(0), Rows.chunk(Rows.C, 1, 77, 3), Rows.framesChunk()));
        x.poke(1, 2);
        x.back();
        CHECK.due("18: restore", x.restore(), 1);
        CHECK.due("18: plain", x.peek(1), 77);
    }

    /** Everything at its most: more than THE TAPE, never more than THE OUT. */
    private static void largest() {
        ZSaves x = Rows.withStory(Rows.zeros(1000));
        int[][] chunks = new int[11][];
        chunks[0] = Rows.headChunk(0);
        chunks[1] = Rows.chunk(Rows.B);
        chunks[2] = Rows.framesChunk();
        for (int i = 0; i < 8; i++) {
            chunks[3 + i] = Rows.chunk(NAME, Rows.filled(200, i + 1));
        }
        CHECK.due("18: eight strangers", restored(x, chunks), 1);
        fillFrames(x);
        for (int i = 1; i < 1000; i += 2) {
            x.poke(i, 255);
        }
        int frames = 88 + 19 * 118;
        CHECK.due("17: the largest", x.save(false), 12 + 22 + 1508 + 8 + frames + 8 * 208);
        CHECK.due("17: its last byte", x.out(x.told(8) - 1), 8);
        CHECK.due("28: its weight", x.told(5), 1500 + frames);
    }

    private static void fillFrames(ZSaves x) {
        for (int f = 0; f < 20; f++) {
            for (int i = 0; i < 40; i++) {
                x.push(65535);
            }
            x.call(1, 1, 7, 15);
        }
    }

    private static void restored() {
        ZSaves x = Rows.withStory(1, 2, 3);
        x.keep();
        x.call(9, 9, 7, 9);
        x.call(9, 9, 7, 9);
        x.local(3, 3);
        int[] frames = {0, 0, 0, 0, 0, 0, 0, 1, 0, 7, 1, 2, 3, 16 + 1, 0, 3, 0, 1, 0, 8, 0, 9};
        CHECK.due("18: restore", restored(x, Rows.headChunk(0x123456), Rows.chunk(Rows.B, 8), Rows.chunk(Rows.D, frames)), 1);
        CHECK.due("18: the tape is empty", x.told(7), 0);
        CHECK.due("18: pc", x.told(1), 0x123456);
        CHECK.due("18: memory", x.peek(0), 9);
        CHECK.due("18: the story's own", x.peek(2), 3);
        CHECK.due("18: frames", x.told(2), 2);
        CHECK.due("18: first stack", x.frame(0, 10), 7);
        CHECK.due("18: back", x.frame(1, 0), 0x010203);
        CHECK.due("18: result", x.frame(1, 1), ZSaves.NONE);
        CHECK.due("18: arguments", x.frame(1, 2), 2);
        CHECK.due("18: local", x.frame(1, 10), 8);
        CHECK.due("18: stack", x.frame(1, 11), 9);
        CHECK.due("18: what is kept stays", x.told(3), 1);
        CHECK.due("14: the restored stack", x.pop(), 9);
        CHECK.due("11: the restored back", x.leave(), 0x010203);
        CHECK.due("19: no fault", x.why(0), 0);
        CHECK.due("19: no place", x.why(1), ZSaves.NONE);
        CHECK.due("19: another what", x.why(2), ZSaves.BAD);
        CHECK.due("19: another what", x.why(-1), ZSaves.BAD);
    }

    /** Shorter runs than can be, and zeros behind the last byte, are read all the same. */
    private static void restoredRuns() {
        ZSaves x = Rows.withStory(Rows.filled(300, 1));
        x.poke(5, 99);
        int[] runs = {0, 0, 0, 0, 6, 0, 255, 0, 39, 7};
        CHECK.due("18: runs", restored(x, Rows.headChunk(0), Rows.chunk(Rows.B, runs), Rows.framesChunk()), 1);
        CHECK.due("18: behind two runs", x.peek(2), 7);
        CHECK.due("18: the story's own again", x.peek(5), 1);
        CHECK.due("18: the last", x.peek(299), 6);
        int[] tail = {2, 0, 255, 0, 42};
        CHECK.due("18: zeros to the end", restored(x, Rows.headChunk(0), Rows.chunk(Rows.B, tail), Rows.framesChunk()), 1);
        CHECK.due("18: the first", x.peek(0), 3);
        CHECK.due("18: the last", x.peek(299), 1);
        CHECK.due("28: weighed as it would be saved", x.told(5), 1 + 8);
    }

    private static void restoredLargest() {
        ZSaves x = Rows.withStory(1);
        int[] frames = Rows.zeros(8);
        for (int i = 1; i < 20; i++) {
            frames = Rows.join(frames, Rows.row(255, 255, 255, 15, 255, 127, 0, 25), Rows.filled(80, i));
        }
        CHECK.due("18: twenty frames", restored(x, Rows.headChunk(0), Rows.chunk(Rows.B), Rows.chunk(Rows.D, frames)), 1);
        CHECK.due("18: frames", x.told(2), 20);
        CHECK.due("18: the last word", x.frame(19, 49), 0x1313);
        CHECK.due("18: back", x.frame(19, 0), 16777215);
        CHECK.due("18: result", x.frame(19, 1), 255);
        int[] deep = Rows.join(Rows.row(0, 0, 0, 0, 0, 0, 0, 40), Rows.filled(80, 3));
        CHECK.due("18: a full stack", restored(x, Rows.headChunk(0), Rows.chunk(Rows.B), Rows.chunk(Rows.D, deep)), 1);
        CHECK.due("18: stack", x.frame(0, 4), 40);
        CHECK.due("13: it is full", x.push(1), ZSaves.FULL);
    }

    private static void bits() {
        ZSaves x = Rows.withStory(Rows.zeros(18));
        x.poke(17, 0xFD);
        x.save(true);
        x.poke(17, 2);
        x.back();
        x.restore();
        CHECK.due("18: the bits stay, plain", x.peek(17), 0xFE);
        x.poke(17, 3);
        restored(x, Rows.headChunk(0), Rows.chunk(Rows.B, 0, 16, 0xF0), Rows.framesChunk());
        CHECK.due("18: the bits stay", x.peek(17), 0xF3);
        x.poke(17, 1);
        restored(x, Rows.headChunk(0), Rows.chunk(Rows.B), Rows.framesChunk());
        CHECK.due("18: the bits stay, not told", x.peek(17), 1);
        restored(x, Rows.headChunk(0), Rows.chunk(Rows.C, Rows.filled(18, 255)), Rows.framesChunk());
        CHECK.due("18: byte 16 has none", x.peek(16), 255);
        CHECK.due("18: byte 17", x.peek(17), 253);
        ZSaves y = Rows.withStory(Rows.zeros(17));
        y.poke(16, 3);
        restored(y, Rows.headChunk(0), Rows.chunk(Rows.B), Rows.framesChunk());
        CHECK.due("18: no bits in 17 bytes", y.peek(16), 0);
    }

    private static void strangers() {
        ZSaves x = Rows.withStory(1, 2);
        int[] one = Rows.chunk(Rows.row(255, 255, 255, 255), 1, 2, 3);
        int[] two = Rows.chunk(NAME);
        int[] three = Rows.chunk(NAME, 0, 0);
        CHECK.due("18: strangers between",
            restored(x, one, Rows.headChunk(5), two, Rows.framesChunk(), Rows.chunk(Rows.B), three), 1);
        CHECK.due("28: strangers", x.told(6), 3);
        int[] due = Rows.file(Rows.headChunk(5), Rows.chunk(Rows.B), Rows.framesChunk(), one, two, three);
        x.save(false);
        same("17: strangers as they came", Rows.outOf(x), due);
        CHECK.due("20: a name", x.chunk(3, 0), -1);
        CHECK.due("20: how many", x.chunk(3, 2), 3);
        CHECK.due("20: of none", x.chunk(4, 2), 0);
        CHECK.due("20: where", x.chunk(5, 1), due.length - 2);
        x.restart();
        CHECK.due("27: strangers stay", x.told(6), 3);
        x.keep();
        x.undo();
        CHECK.due("25: strangers stay", x.told(6), 3);
        CHECK.due("18: a fault", restored(x, Rows.headChunk(5), two, two), -20);
        CHECK.due("18: strangers stay with a fault", x.told(6), 3);
        CHECK.due("18: others", restored(x, Rows.headChunk(5), two, Rows.chunk(Rows.B), Rows.framesChunk()), 1);
        CHECK.due("28: those of the latest", x.told(6), 1);
        CHECK.due("18: none", restored(x, Rows.headChunk(5), Rows.chunk(Rows.B), Rows.framesChunk()), 1);
        CHECK.due("28: none", x.told(6), 0);
        CHECK.due("17: none", x.save(false), 58);
    }

    private static void strangersAtTheirMost() {
        ZSaves x = Rows.withStory(1);
        int[] most = Rows.chunk(NAME, Rows.filled(199, 7));
        int[] even = Rows.chunk(NAME, Rows.filled(200, 8));
        int[] all = Rows.join(most, even, most, even, most, even, most, even);
        CHECK.due("18: eight", restored(x, Rows.headChunk(0), Rows.chunk(Rows.B), Rows.framesChunk(), all), 1);
        CHECK.due("28: eight", x.told(6), 8);
        x.save(true);
        same("17: eight", Rows.outOf(x),
            Rows.file(Rows.headChunk(0), Rows.chunk(Rows.C, 1), Rows.framesChunk(), all));
        CHECK.due("20: the eleventh", x.chunk(10, 2), 200);
        CHECK.due("20: no twelfth", x.chunk(11, 2), ZSaves.NONE);
    }

    private static void strangersManyTimes() {
        ZSaves x = Rows.withStory(1);
        for (int i = 1; i <= 12; i++) {
            int[] large = Rows.chunk(NAME, Rows.filled(200 - i, i));
            restored(x, Rows.headChunk(0), large, Rows.chunk(Rows.B), Rows.framesChunk(), large);
            x.save(true);
            same("17: strangers of file " + i, Rows.outOf(x),
                Rows.file(Rows.headChunk(0), Rows.chunk(Rows.C, 1), Rows.framesChunk(), large, large));
        }
    }

    /** A result of 0 and one that is thrown away differ in the fourth byte alone. */
    private static void thrownAway() {
        ZSaves x = Rows.withStory(1);
        for (int shape : new int[] {0, 15, 16, 31}) {
            int[] frames = Rows.join(Rows.zeros(8), Rows.row(0, 0, 1, shape, 0, 0, 0, 0), Rows.zeros(2 * (shape & 15)));
            restored(x, Rows.headChunk(0), Rows.chunk(Rows.B), Rows.chunk(Rows.D, frames));
            CHECK.due("18: result of " + shape, x.frame(1, 1), shape >= 16 ? ZSaves.NONE : 0);
            CHECK.due("18: locals of " + shape, x.frame(1, 3), shape & 15);
        }
    }

    /** Nothing is looked at in a second one, and it is no STRANGER. */
    private static void seconds() {
        ZSaves x = Rows.withStory(1, 2);
        CHECK.due("18: seconds", restored(x, Rows.headChunk(5), Rows.chunk(Rows.C, 8, 9), Rows.framesChunk(),
            Rows.chunk(Rows.A, 1), Rows.chunk(Rows.B, 0), Rows.chunk(Rows.C, 1, 2, 3), Rows.chunk(Rows.D, 9)), 1);
        CHECK.due("18: the first A", x.told(1), 5);
        CHECK.due("18: the first of B and C", x.peek(0), 8);
        CHECK.due("18: the first D", x.told(2), 1);
        CHECK.due("28: no strangers", x.told(6), 0);
        CHECK.due("18: B first", restored(x, Rows.headChunk(6), Rows.headChunk(7), Rows.chunk(Rows.B, 1),
            Rows.chunk(Rows.C, 8, 9), Rows.framesChunk()), 1);
        CHECK.due("18: the first A", x.told(1), 6);
        CHECK.due("18: B", x.peek(0), 0);
        int[] spoiled = Rows.with(Rows.chunk(Rows.A, 1), 9, 1);
        CHECK.due("18: but its one more is",
            restored(x, Rows.headChunk(5), Rows.chunk(Rows.B), Rows.framesChunk(), spoiled), -14);
    }

    private static void order() {
        ZSaves x = Rows.withStory(1, 2);
        int[] frames = Rows.chunk(Rows.D, 0, 0, 0, 0, 0, 0, 0, 1, 0, 7);
        CHECK.due("18: D first", restored(x, frames, Rows.headChunk(5), Rows.chunk(Rows.C, 8, 9)), 1);
        CHECK.due("18: D", x.frame(0, 10), 7);
        CHECK.due("18: C", x.peek(1), 9);
    }

    private static void chunk() {
        ZSaves x = Rows.withStory(1, 2);
        CHECK.due("20: no save", x.chunk(0, 0), ZSaves.NONE);
        CHECK.due("20: bad ahead of none", x.chunk(0, 3), ZSaves.BAD);
        x.poke(0, 0);
        x.save(false);
        int[][] due = {{0x49466864, 20, 13}, {0x434D656D, 42, 1}, {0x53746B73, 52, 8}};
        for (int i = 0; i < 3; i++) {
            for (int what = 0; what < 3; what++) {
                CHECK.due("20: chunk(" + i + ", " + what + ")", x.chunk(i, what), due[i][what]);
            }
        }
        CHECK.due("20: no such", x.chunk(3, 0), ZSaves.NONE);
        CHECK.due("20: no such", x.chunk(-1, 0), ZSaves.NONE);
        CHECK.due("20: another what", x.chunk(0, -1), ZSaves.BAD);
        CHECK.due("20: both", x.chunk(9, 9), ZSaves.BAD);
        x.save(true);
        CHECK.due("20: of the latest", x.chunk(1, 0), 0x554D656D);
        CHECK.due("20: of the latest", x.chunk(1, 2), 2);
    }

    private static void disk() {
        ZSaves x = Rows.withStory(1, 2);
        CHECK.due("23: none was written", x.load(), ZSaves.NONE);
        CHECK.due("21: an empty out", x.write(), 1);
        CHECK.due("28: an empty file", x.told(9), 0);
        x.feed(1, 1, 1, 1, 1);
        CHECK.due("23: an empty file", x.load(), 0);
        CHECK.due("23: an empty tape", x.told(7), 0);
        x.poke(0, 50);
        int n = x.save(true);
        CHECK.due("28: not yet", x.told(9), 0);
        CHECK.due("21: write", x.write(), 1);
        CHECK.due("28: the file", x.told(9), n);
        x.push(1);
        CHECK.due("17: a larger one", x.save(true), n + 2);
        CHECK.due("28: the file stays", x.told(9), n);
        x.poke(0, 51);
        CHECK.due("23: load", x.load(), n);
        CHECK.due("28: the tape", x.told(7), n);
        CHECK.due("18: restore", x.restore(), 1);
        CHECK.due("18: memory", x.peek(0), 50);
        CHECK.due("23: it is still there", x.load(), n);
    }

    private static void diskOfTooMuch() {
        ZSaves x = Rows.withStory(Rows.zeros(1000));
        fillFrames(x);
        int n = x.save(true);
        x.feed(1, 1, 1, 1, 1);
        CHECK.due("21: more than the tape has", x.write(), 1);
        CHECK.due("28: the file", x.told(9), n);
        CHECK.due("23: full", x.load(), ZSaves.FULL);
        CHECK.due("23: nothing changed", x.told(7), 20);
    }

    private static void cut() {
        ZSaves x = Rows.withStory(1, 2);
        int n = x.save(true);
        CHECK.due("22: below 0", x.cut(-1), ZSaves.BAD);
        CHECK.due("22: below none", x.cut(-3), ZSaves.BAD);
        CHECK.due("22: cut", x.cut(n - 1), 1);
        CHECK.due("22: bad changes nothing", x.cut(-1), ZSaves.BAD);
        CHECK.due("21: cut", x.write(), 0);
        CHECK.due("21: nothing on the disk", x.told(9), ZSaves.NONE);
        CHECK.due("22: forgotten", x.write(), 1);
        x.push(9);
        CHECK.due("17: a larger one", x.save(true), n + 2);
        x.cut(0);
        CHECK.due("21: cut at once", x.write(), 0);
        CHECK.due("21: the one before stays", x.told(9), n);
        x.cut(n + 2);
        CHECK.due("21: as many as it has", x.write(), 1);
        x.push(9);
        x.save(true);
        CHECK.due("22: forgotten by a whole one", x.write(), 1);
        CHECK.due("28: the file", x.told(9), n + 4);
        x.cut(1);
        CHECK.due("22: none", x.cut(ZSaves.NONE), 1);
        CHECK.due("21: not cut", x.write(), 1);
        x.cut(1);
        x.cut(100000);
        CHECK.due("22: the latest counts", x.write(), 1);
        ZSaves y = new ZSaves();
        y.cut(0);
        CHECK.due("21: nothing has no more than 0", y.write(), 1);
    }
}
