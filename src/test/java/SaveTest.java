/** Promises 17 and 20: what a FILE is when it is SAVED, and its CHUNKS. */
public final class SaveTest {
    private static final int BAD = ZSaves.BAD, NONE = ZSaves.NONE, FULL = ZSaves.FULL;
    private static final int LOWEST = Integer.MIN_VALUE, HIGHEST = Integer.MAX_VALUE;
    private static final int[] NAME = {1, 2, 3, 4};
    private static final Cases CASES = new Cases();

    public static void main(String[] args) {
        head();
        runs();
        runsAtTheirEdges();
        memoryAsItIs();
        frames();
        framesAtTheirEdges();
        heaviest();
        strangers();
        strangersAtTheirEdges();
        saveChangesTheOutAlone();
        chunk();
        chunkOfTheLatest();
        chunkRefused();
        CASES.finish();
    }

    private static void head() {
        CASES.saved("17 the smallest FILE", x -> Rows.story(x, 9), false,
            Rows.file(Rows.headChunk(0), Rows.chunk(Rows.B), Rows.framesChunk()));
        CASES.saved("17 A: the PC's highest byte first", x -> {
            Rows.story(x, 9);
            x.jump(0x123456);
        }, false, Rows.file(Rows.headChunk(0x123456), Rows.chunk(Rows.B), Rows.framesChunk()));
        CASES.saved("17 A: the largest PC", x -> {
            Rows.story(x, 9);
            x.jump(16777215);
        }, true, Rows.file(Rows.headChunk(16777215), Rows.chunk(Rows.C, 9), Rows.framesChunk()));
    }

    /** B of a MEMORY of so many bytes, of which those of the pairs (at, exclusive or) are other than the STORY's. */
    private static void runs(String name, int size, int[] pairs, int... due) {
        CASES.saved("17 B: " + name, x -> {
            Rows.story(x, Rows.filled(size, 0xF0));
            for (int i = 0; i < pairs.length; i += 2) {
                x.poke(pairs[i], 0xF0 ^ pairs[i + 1]);
            }
        }, false, Rows.file(Rows.headChunk(0), Rows.chunk(Rows.B, due), Rows.framesChunk()));
    }

    private static void runs() {
        runs("nothing differs", 20, Rows.row());
        runs("the first byte", 20, Rows.row(0, 1), 1);
        runs("two bytes, no one more", 20, Rows.row(0, 1, 1, 2), 1, 2);
        runs("0s between", 20, Rows.row(0, 1, 5, 2), 1, 0, 3, 2);
        runs("0s ahead, between, and none told behind", 20, Rows.row(3, 1, 4, 2, 9, 3), 0, 2, 1, 2, 0, 3, 3);
        runs("the last byte", 20, Rows.row(19, 255), 0, 18, 255);
        runs("each byte", 5, Rows.row(0, 1, 1, 2, 2, 3, 3, 128, 4, 255), 1, 2, 3, 128, 255);
        runs("the only byte", 1, Rows.row(0, 7), 7);
        CASES.saved("17 B: a byte that is 0 now stands as the STORY's", x -> {
            Rows.story(x, 5, 6, 7);
            x.poke(1, 0);
        }, false, Rows.file(Rows.headChunk(0), Rows.chunk(Rows.B, 0, 0, 6), Rows.framesChunk()));
        CASES.saved("17 B: a byte that was changed and changed back", x -> {
            Rows.story(x, 5, 6, 7);
            x.poke(1, 0);
            x.poke(1, 6);
        }, false, Rows.file(Rows.headChunk(0), Rows.chunk(Rows.B), Rows.framesChunk()));
    }

    private static void runsAtTheirEdges() {
        runs("a RUN of 1", 600, Rows.row(1, 9), 0, 0, 9);
        runs("a RUN of 2", 600, Rows.row(2, 9), 0, 1, 9);
        runs("a RUN of 255", 600, Rows.row(255, 9), 0, 254, 9);
        runs("a RUN of 256", 600, Rows.row(256, 9), 0, 255, 9);
        runs("257 0s", 600, Rows.row(257, 9), 0, 255, 0, 0, 9);
        runs("511 0s", 600, Rows.row(511, 9), 0, 255, 0, 254, 9);
        runs("512 0s", 600, Rows.row(512, 9), 0, 255, 0, 255, 9);
        runs("513 0s", 600, Rows.row(513, 9), 0, 255, 0, 255, 0, 0, 9);
        runs("a RUN of 256 between", 600, Rows.row(0, 8, 257, 9), 8, 0, 255, 9);
        runs("999 0s and the thousandth byte", 1000, Rows.row(999, 9), 0, 255, 0, 255, 0, 255, 0, 230, 9);
        runs("999 0s behind the first byte", 1000, Rows.row(0, 9), 9);
        runs("256 0s behind the last", 258, Rows.row(1, 9), 0, 0, 9);
        int[] memory = Rows.zeros(1000);
        int[] longest = Rows.zeros(1500);
        for (int i = 0; i < 500; i++) {
            memory[2 * i + 1] = 255;
            longest[3 * i + 2] = 255;
        }
        CASES.saved("17 B: the longest, every second byte differs", x -> {
            Rows.story(x, Rows.zeros(1000));
            // THE BITS stay 0 when it is restored.
            Rows.restored(x, Rows.headChunk(0), Rows.chunk(Rows.C, memory), Rows.framesChunk());
            x.poke(17, 255);
        }, false, Rows.file(Rows.headChunk(0), Rows.chunk(Rows.B, longest), Rows.framesChunk()));
    }

    private static void memoryAsItIs() {
        CASES.saved("17 C: one byte and the one more", x -> Rows.story(x, 9), true,
            Rows.file(Rows.headChunk(0), Rows.chunk(Rows.C, 9), Rows.framesChunk()));
        CASES.saved("17 C: two bytes and no one more", x -> Rows.story(x, 9, 255), true,
            Rows.file(Rows.headChunk(0), Rows.chunk(Rows.C, 9, 255), Rows.framesChunk()));
        CASES.saved("17 C: what is told does not stop at the last that differs", x -> {
            Rows.story(x, 9, 0, 0, 7);
            x.poke(1, 255);
        }, true, Rows.file(Rows.headChunk(0), Rows.chunk(Rows.C, 9, 255, 0, 7), Rows.framesChunk()));
        CASES.saved("17 C: a thousand bytes", x -> {
            Rows.story(x, Rows.filled(1000, 200));
            x.poke(999, 1);
        }, true, Rows.file(Rows.headChunk(0), Rows.chunk(Rows.C, Rows.with(Rows.filled(1000, 200), 999, 1)), Rows.framesChunk()));
    }

    private static int[] fileOfFrames(int pc, int... frames) {
        return Rows.file(Rows.headChunk(pc), Rows.chunk(Rows.B), Rows.chunk(Rows.D, frames));
    }

    private static void frames() {
        CASES.saved("17 D: the first FRAME first, LOCALS, then the STACK, the lowest first", x -> {
            Rows.story(x, 9);
            x.push(0x0102);
            x.jump(0x030405);
            x.call(0x060708, 200, 2, 2);
            x.local(0, 0x0910);
            x.local(1, 0x1112);
            x.push(0x1314);
            x.push(0x1516);
            x.call(0x090A0B, NONE, 1, 1);
        }, false, fileOfFrames(0x090A0B, Rows.join(
            Rows.row(0, 0, 0, 0, 0, 0, 0, 1, 1, 2),
            Rows.row(3, 4, 5, 2, 200, 3, 0, 2, 9, 0x10, 0x11, 0x12, 0x13, 0x14, 0x15, 0x16),
            Rows.row(6, 7, 8, 17, 0, 1, 0, 0, 0, 0))));
    }

    private static void frame(String name, int result, int arguments, int locals, int... due) {
        CASES.saved("17 D: " + name, x -> {
            Rows.story(x, 9);
            x.call(5, result, arguments, locals);
        }, false, fileOfFrames(5, Rows.join(Rows.zeros(8), due, Rows.zeros(2 * locals))));
    }

    private static void framesAtTheirEdges() {
        int[] marks = {0, 1, 3, 7, 15, 31, 63, 127};
        for (int i = 0; i < 8; i++) {
            frame("ARGUMENTS " + i, 9, i, 0, 0, 0, 0, 0, 9, marks[i], 0, 0);
        }
        frame("RESULT 0", 0, 0, 0, 0, 0, 0, 0, 0, 0, 0, 0);
        frame("RESULT 255", 255, 0, 0, 0, 0, 0, 0, 255, 0, 0, 0);
        frame("thrown away", NONE, 0, 0, 0, 0, 0, 16, 0, 0, 0, 0);
        frame("thrown away, fifteen LOCALS", NONE, 0, 15, 0, 0, 0, 31, 0, 0, 0, 0);
        frame("fifteen LOCALS", 1, 0, 15, 0, 0, 0, 15, 1, 0, 0, 0);
        CASES.saved("17 D: BACK the largest PC", x -> {
            Rows.story(x, 9);
            x.jump(16777215);
            x.call(0, 0, 0, 0);
        }, false, fileOfFrames(0, Rows.join(Rows.zeros(8), Rows.row(255, 255, 255, 0, 0, 0, 0, 0))));
        CASES.saved("17 D: a full STACK of the largest WORDS", x -> {
            Rows.story(x, 9);
            for (int i = 0; i < 40; i++) {
                x.push(65535);
            }
        }, false, fileOfFrames(0, Rows.join(Rows.row(0, 0, 0, 0, 0, 0, 0, 40), Rows.filled(80, 255))));
        CASES.saved("17 D: twenty FRAMES", x -> {
            Rows.story(x, 9);
            for (int i = 1; i < 20; i++) {
                x.call(0, 0, 0, 0);
            }
        }, false, fileOfFrames(0, Rows.zeros(160)));
        int[] full = Rows.join(Rows.row(0, 0, 0, 15, 7, 127, 0, 40), Rows.zeros(30), Rows.filled(80, 255));
        int[] sixteen = Rows.join(Rows.row(0, 0, 0, 0, 0, 0, 0, 40), Rows.filled(80, 255));
        for (int i = 1; i < 16; i++) {
            sixteen = Rows.join(sixteen, full);
        }
        int[] read = sixteen;
        CASES.saved("17 D: the longest, and a FILE that THE TAPE could not take", x -> {
            Rows.story(x, 9);
            Rows.onTape(x, fileOfFrames(0, read));
            x.restore();
            for (int i = 16; i < 20; i++) {
                x.call(0, 7, 7, 15);
                for (int k = 0; k < 40; k++) {
                    x.push(65535);
                }
            }
        }, false, fileOfFrames(0, Rows.join(sixteen, full, full, full, full)));
    }

    /** The FILES of the heaviest SESSION have places above 255 and 2,000, and more bytes than THE TAPE takes. */
    private static void heaviest() {
        int[] runs = Rows.zeros(1500);
        for (int i = 2; i < 1500; i += 3) {
            runs[i] = 252;
        }
        CASES.saved("17 the longest B beside a long D", Rows::heaviest, false,
            Rows.file(Rows.headChunk(0), Rows.chunk(Rows.B, runs), Rows.chunk(Rows.D, Rows.heaviestFrames())));
        CASES.saved("17 the longest C beside a long D", Rows::heaviest, true,
            Rows.file(Rows.headChunk(0), Rows.chunk(Rows.C, Rows.everySecond(252)), Rows.chunk(Rows.D, Rows.heaviestFrames())));
        CASES.answers("20 the longest B beside a long D", Rows::heaviest,
            x -> new long[] {x.save(false), x.chunk(1, 1), x.chunk(1, 2), x.chunk(2, 1), x.chunk(2, 2), x.chunk(3, 1)},
            3560, 42, 1500, 1550, 2010, NONE);
        CASES.answers("17 a FILE larger than THE TAPE is still THE OUT", Rows::heaviest,
            x -> new long[] {x.save(false), x.back(), x.told(8), x.write(), x.load(), x.told(9), x.told(7)},
            3560, FULL, 3560, 1, FULL, 3560, 0);
    }

    private static Cases.Steps restored(int[]... strangers) {
        return x -> {
            Rows.story(x, 9);
            Rows.restored(x, Rows.join(strangers), Rows.headChunk(5), Rows.chunk(Rows.B), Rows.framesChunk());
        };
    }

    private static void savedWith(String name, int[]... strangers) {
        CASES.saved("17 STRANGERS: " + name, restored(strangers), false,
            Rows.file(Rows.headChunk(5), Rows.chunk(Rows.B), Rows.framesChunk(), Rows.join(strangers)));
    }

    private static void strangers() {
        savedWith("as they came, with the one more or without", Rows.chunk(NAME, 1, 2, 3), Rows.chunk(NAME, 4, 5));
        savedWith("in their order, not by NAME", Rows.chunk(Rows.row(9, 9, 9, 9), 1, 2), Rows.chunk(NAME, 3, 4));
        savedWith("bytes that are 0", Rows.chunk(NAME, 0, 0, 0));
        int[] one = Rows.chunk(NAME, 1);
        int[] two = Rows.chunk(NAME, 2, 2);
        int[] three = Rows.chunk(NAME, 3, 3, 3);
        CASES.saved("17 STRANGERS: behind D, wherever they stood", x -> {
            Rows.story(x, 9);
            Rows.restored(x, one, Rows.headChunk(5), two, Rows.framesChunk(), Rows.chunk(Rows.B), three);
        }, true, Rows.file(Rows.headChunk(5), Rows.chunk(Rows.C, 9), Rows.framesChunk(), one, two, three));
        CASES.saved("17 STRANGERS: whatever comes on THE TAPE behind them", x -> {
            restored(one, two, three).on(x);
            Rows.onTape(x, Rows.filled(120, 99));
        }, false, Rows.file(Rows.headChunk(5), Rows.chunk(Rows.B), Rows.framesChunk(), one, two, three));
        CASES.saved("17 STRANGERS: those of the FILE restored latest alone", x -> {
            restored(one, two, three).on(x);
            Rows.restored(x, Rows.headChunk(5), Rows.chunk(Rows.B), Rows.framesChunk(), two);
        }, false, Rows.file(Rows.headChunk(5), Rows.chunk(Rows.B), Rows.framesChunk(), two));
        CASES.saved("17 STRANGERS: none, if the FILE restored latest has none", x -> {
            restored(one, two, three).on(x);
            Rows.restored(x, Rows.headChunk(5), Rows.chunk(Rows.B), Rows.framesChunk());
        }, false, Rows.file(Rows.headChunk(5), Rows.chunk(Rows.B), Rows.framesChunk()));
    }

    private static void strangersAtTheirEdges() {
        savedWith("one without bytes", Rows.chunk(NAME));
        savedWith("one of 199 bytes and its 0", Rows.chunk(NAME, Rows.filled(199, 7)));
        savedWith("one of 200 bytes", Rows.chunk(NAME, Rows.filled(200, 7)));
        int[] least = Rows.chunk(NAME);
        savedWith("eight without bytes", least, least, least, least, least, least, least, least);
        int[] odd = Rows.chunk(NAME, Rows.filled(199, 8));
        int[] even = Rows.chunk(NAME, Rows.filled(200, 9));
        savedWith("eight at their most", even, odd, even, odd, even, odd, even, even);
        savedWith("a NAME of 0s and one of 255s", Rows.chunk(Rows.zeros(4), 1), Rows.chunk(Rows.filled(4, 255), 2));
        savedWith("a NAME that begins a FILE", Rows.chunk(Rows.FORM, 1), Rows.chunk(Rows.IFZS, 2));
        for (int i = 0; i < 4; i++) {
            savedWith("byte " + i + " of a NAME is another one",
                Rows.chunk(Rows.with(Rows.A, i, Rows.A[i] ^ 32), 1), Rows.chunk(Rows.with(Rows.B, i, Rows.B[i] ^ 1), 2),
                Rows.chunk(Rows.with(Rows.C, i, Rows.C[i] ^ 128), 3), Rows.chunk(Rows.with(Rows.D, i, 0), 4));
        }
        CASES.saved("17 STRANGERS: many FILES, one after the other", x -> {
            Rows.story(x, 9);
            for (int i = 1; i <= 8; i++) {
                int[] large = Rows.chunk(NAME, Rows.filled(200 - i, i));
                Rows.restored(x, Rows.headChunk(5), large, Rows.chunk(Rows.B), Rows.framesChunk(), large);
            }
        }, false, Rows.file(Rows.headChunk(5), Rows.chunk(Rows.B), Rows.framesChunk(),
            Rows.chunk(NAME, Rows.filled(192, 8)), Rows.chunk(NAME, Rows.filled(192, 8))));
    }

    private static void saveChangesTheOutAlone() {
        CASES.answers("17 the SESSION stays", Cases::rich, x -> {
            long before = x.print();
            x.save(true);
            return new long[] {x.print() - before, x.told(6), x.told(7)};
        }, 0, 2, 20);
        CASES.answers("17 what is KEPT stays", Cases::rich, x -> {
            long before = x.told(4);
            x.save(true);
            return new long[] {x.told(4) - before, x.told(3)};
        }, 0, 2);
        CASES.answers("17 the disk and why() stay", Cases::rich,
            x -> new long[] {x.save(true), x.told(9), x.why(0), x.why(1)}, 120, 104, 1, 0);
        CASES.answers("17 THE OUT is the new one, though it is smaller", Cases::rich,
            x -> new long[] {x.save(true), x.save(false), x.told(8)}, 120, 106, 106);
    }

    /** A FILE of 60 bytes: A at 20, B of one byte at 42, D at 52. */
    private static void saved(Counted x) {
        Rows.story(x, 1, 2);
        x.poke(0, 0);
        x.save(false);
    }

    private static void chunk() {
        CASES.answers("20 A", SaveTest::saved,
            x -> new long[] {x.chunk(0, 0), x.chunk(0, 1), x.chunk(0, 2)}, 0x49466864, 20, 13);
        CASES.answers("20 B", SaveTest::saved,
            x -> new long[] {x.chunk(1, 0), x.chunk(1, 1), x.chunk(1, 2)}, 0x434D656D, 42, 1);
        CASES.answers("20 D, behind the one more", SaveTest::saved,
            x -> new long[] {x.chunk(2, 0), x.chunk(2, 1), x.chunk(2, 2)}, 0x53746B73, 52, 8);
        CASES.answers("20 C", x -> {
            Rows.story(x, 1, 2);
            x.save(true);
        }, x -> new long[] {x.chunk(1, 0), x.chunk(1, 1), x.chunk(1, 2), x.chunk(2, 1)}, 0x554D656D, 42, 2, 52);
        CASES.answers("20 a B without bytes", x -> {
            Rows.story(x, 1, 2);
            x.save(false);
        }, x -> new long[] {x.chunk(1, 1), x.chunk(1, 2), x.chunk(2, 1)}, 42, 0, 50);
        CASES.answers("20 a STRANGER whose NAME is a number below 0", x -> {
            restored(Rows.chunk(Rows.row(255, 255, 255, 254), 1), Rows.chunk(Rows.row(128, 0, 0, 0), 1)).on(x);
            x.save(false);
        }, x -> new long[] {x.chunk(3, 0), x.chunk(3, 1), x.chunk(3, 2), x.chunk(4, 0), x.chunk(4, 1)},
            -2, 66, 1, LOWEST, 76);
        CASES.answers("20 the eleventh", x -> {
            int[] most = Rows.chunk(NAME, Rows.filled(200, 7));
            restored(most, most, most, most, most, most, most, most).on(x);
            x.save(false);
        }, x -> new long[] {x.chunk(10, 0), x.chunk(10, 1), x.chunk(10, 2), x.chunk(11, 0)},
            0x01020304, 58 + 7 * 208 + 8, 200, NONE);
    }

    private static void chunkOfTheLatest() {
        CASES.answers("20 of the latest save()", SaveTest::saved,
            x -> new long[] {x.save(true), x.chunk(1, 0), x.chunk(1, 2)}, 60, 0x554D656D, 2);
        CASES.answers("20 fewer than in the save() before", x -> {
            restored(Rows.chunk(NAME)).on(x);
            x.save(false);
            Rows.restored(x, Rows.headChunk(5), Rows.chunk(Rows.B), Rows.framesChunk());
        }, x -> new long[] {x.chunk(3, 2), x.save(false), x.chunk(3, 2)}, 0, 58, NONE);
        CASES.answers("20 restore(), back() and load() are no save()", SaveTest::saved, x -> {
            x.write();
            x.push(1);
            x.back();
            x.load();
            x.restore();
            return new long[] {x.chunk(2, 2), x.chunk(3, 0)};
        }, 8, NONE);
    }

    private static void chunkRefused() {
        CASES.refused("20 NONE: there was no save()", x -> Rows.story(x, 1), x -> x.chunk(0, 0), NONE);
        CASES.refused("20 NONE: as many as there are", SaveTest::saved, x -> x.chunk(3, 0), NONE);
        CASES.refused("20 NONE: CHUNK -1", SaveTest::saved, x -> x.chunk(-1, 0), NONE);
        CASES.refused("20 NONE: CHUNK the lowest number", SaveTest::saved, x -> x.chunk(LOWEST, 0), NONE);
        CASES.refused("20 NONE: CHUNK the highest number", SaveTest::saved, x -> x.chunk(HIGHEST, 2), NONE);
        CASES.refused("20 BAD: what -1", SaveTest::saved, x -> x.chunk(0, -1), BAD);
        CASES.refused("20 BAD: what 3", SaveTest::saved, x -> x.chunk(0, 3), BAD);
        CASES.refused("20 BAD: what the lowest number", SaveTest::saved, x -> x.chunk(0, LOWEST), BAD);
        CASES.refused("20 BAD: what the highest number", SaveTest::saved, x -> x.chunk(0, HIGHEST), BAD);
        CASES.refused("20 BAD ahead of NONE: no such one", SaveTest::saved, x -> x.chunk(3, 3), BAD);
        CASES.refused("20 BAD ahead of NONE: no save()", x -> Rows.story(x, 1), x -> x.chunk(0, 3), BAD);
    }
}
