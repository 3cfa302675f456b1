import java.util.Arrays;

/** Promise 18: what a FILE without a fault becomes, at the edges of what it may have. */
public final class RestoreTest {
    private static final int BAD = ZSaves.BAD, NONE = ZSaves.NONE, FULL = ZSaves.FULL;
    private static final int[] NAME = {1, 2, 3, 4};
    private static final int[] HEAD_CHUNK = Rows.headChunk(77);
    private static final int[] RUNS = Rows.chunk(Rows.B);
    private static final int[] FRAMES = Rows.framesChunk();
    private static final Cases CASES = new Cases();

    public static void main(String[] args) {
        whole();
        whatStays();
        pc();
        runs();
        runsAtTheirEdges();
        memoryAsItIs();
        frames();
        framesAtTheirEdges();
        behindAnother();
        order();
        seconds();
        strangers();
        asLargeAsCanBe();
        bits();
        noBits();
        CASES.finish();
    }

    private static void three(Counted x) {
        Rows.story(x, 1, 2, 3);
    }

    private static void whole() {
        CASES.answers("18 a SESSION as it was SAVED", Cases::rich, x -> {
            long print = x.print();
            x.save(false);
            x.restart();
            x.jump(9);
            x.back();
            return new long[] {x.restore(), x.print() - print, x.why(0), x.why(1)};
        }, 1, 0, 0, NONE);
        CASES.answers("18 a SESSION as it was SAVED with C", Cases::rich, x -> {
            long print = x.print();
            x.save(true);
            x.restart();
            x.back();
            return new long[] {x.restore(), x.print() - print};
        }, 1, 0);
        CASES.answers("18 THE TAPE is empty behind it", RestoreTest::three,
            x -> new long[] {Rows.restored(x, HEAD_CHUNK, RUNS, FRAMES), x.told(7)}, 1, 0);
        CASES.answers("18 a second restore() has an empty TAPE", RestoreTest::three,
            x -> new long[] {Rows.restored(x, HEAD_CHUNK, RUNS, FRAMES), x.restore(), x.why(1), x.told(1)}, 1, -11, 0, 77);
    }

    private static void whatStays() {
        CASES.answers("18 what is KEPT stays", Cases::rich, x -> {
            long weight = x.told(4);
            return new long[] {Rows.restored(x, HEAD_CHUNK, RUNS, FRAMES), x.told(3), x.told(4) - weight, x.undo(), x.told(2)};
        }, 1, 2, 0, 1, 2);
        CASES.answers("18 THE OUT, the disk, a cut and THE BOUND stay", Cases::rich,
            x -> new long[] {Rows.restored(x, HEAD_CHUNK, RUNS, FRAMES), x.told(8), x.told(9), x.write(), x.bound(9)},
            1, 120, 104, 0, 900);
    }

    private static void pc() {
        CASES.answers("18 PC 0", x -> {
            three(x);
            x.jump(5);
        }, x -> new long[] {Rows.restored(x, Rows.headChunk(0), RUNS, FRAMES), x.told(1)}, 1, 0);
        CASES.answers("18 the largest PC", RestoreTest::three,
            x -> new long[] {Rows.restored(x, Rows.headChunk(16777215), RUNS, FRAMES), x.told(1)}, 1, 16777215);
        CASES.answers("18 the PC's highest byte first", RestoreTest::three,
            x -> new long[] {Rows.restored(x, Rows.headChunk(0x123456), RUNS, FRAMES), x.told(1)}, 1, 0x123456);
    }

    private static int withRuns(Counted x, int... runs) {
        return Rows.restored(x, HEAD_CHUNK, Rows.chunk(Rows.B, runs), FRAMES);
    }

    private static void runs() {
        CASES.answers("18 B: a byte exclusive or the STORY's", RestoreTest::three,
            x -> new long[] {withRuns(x, 255), x.peek(0), x.peek(1), x.peek(2)}, 1, 254, 2, 3);
        CASES.answers("18 B: against the STORY's byte, not that of MEMORY", x -> {
            three(x);
            x.poke(0, 99);
            x.poke(1, 98);
            x.poke(2, 97);
        }, x -> new long[] {withRuns(x, 4, 0, 0), x.peek(0), x.peek(1), x.peek(2)}, 1, 5, 2, 3);
        CASES.answers("18 B: shorter RUNS than can be", RestoreTest::three,
            x -> new long[] {withRuns(x, 0, 0, 0, 0, 4), x.peek(0), x.peek(1), x.peek(2)}, 1, 1, 2, 7);
        CASES.answers("18 B: 0s behind the last byte need not be told", RestoreTest::three,
            x -> new long[] {withRuns(x, 4), x.peek(2), x.told(5)}, 1, 3, 9);
        CASES.answers("18 B: 0s behind the last byte may be told", RestoreTest::three,
            x -> new long[] {withRuns(x, 4, 0, 1), x.peek(2), x.told(5)}, 1, 3, 9);
        CASES.answers("18 B: some of the 0s behind the last byte", RestoreTest::three,
            x -> new long[] {withRuns(x, 4, 0, 0), x.peek(2), x.told(5)}, 1, 3, 9);
    }

    private static void runsAtTheirEdges() {
        CASES.answers("18 B: no bytes", x -> {
            three(x);
            x.poke(0, 99);
        }, x -> new long[] {withRuns(x), x.peek(0)}, 1, 1);
        CASES.answers("18 B: a byte just at MEMORY's end", RestoreTest::three,
            x -> new long[] {withRuns(x, 1, 1, 1), x.peek(2)}, 1, 2);
        CASES.answers("18 B: a RUN just to MEMORY's end", RestoreTest::three, x -> new long[] {withRuns(x, 0, 2), x.told(5)}, 1, 8);
        CASES.answers("18 B: a RUN of 1 just to MEMORY's end", RestoreTest::three,
            x -> new long[] {withRuns(x, 1, 1, 0, 0), x.peek(1)}, 1, 3);
        CASES.answers("18 B: a RUN of 256 just to MEMORY's end", x -> Rows.story(x, Rows.filled(256, 9)),
            x -> new long[] {withRuns(x, 0, 255), x.peek(255)}, 1, 9);
        CASES.answers("18 B: a byte behind a RUN of 256, at MEMORY's end", x -> Rows.story(x, Rows.filled(257, 9)),
            x -> new long[] {withRuns(x, 0, 255, 1), x.peek(255), x.peek(256)}, 1, 9, 8);
        CASES.answers("18 B: RUNS to the thousandth byte", x -> Rows.story(x, Rows.filled(1000, 9)),
            x -> new long[] {withRuns(x, 0, 255, 0, 255, 0, 255, 0, 230, 1), x.peek(998), x.peek(999)}, 1, 9, 8);
        CASES.answers("18 B: RUNS to the end of a thousand", x -> Rows.story(x, Rows.filled(1000, 9)),
            x -> new long[] {withRuns(x, 0, 255, 0, 255, 0, 255, 0, 231), x.told(5)}, 1, 8);
        CASES.answers("18 B: a STORY of one byte", x -> Rows.story(x, 9), x -> new long[] {withRuns(x, 9), x.peek(0)}, 1, 0);
        CASES.answers("18 B: a RUN in a STORY of one byte", x -> Rows.story(x, 9),
            x -> new long[] {withRuns(x, 0, 0), x.peek(0)}, 1, 9);
    }

    private static void memoryAsItIs() {
        CASES.answers("18 C: each byte", RestoreTest::three, x -> new long[] {
            Rows.restored(x, HEAD_CHUNK, Rows.chunk(Rows.C, 0, 255, 128), FRAMES), x.peek(0), x.peek(1), x.peek(2)},
            1, 0, 255, 128);
        CASES.answers("18 C: a STORY of one byte", x -> Rows.story(x, 9),
            x -> new long[] {Rows.restored(x, HEAD_CHUNK, Rows.chunk(Rows.C, 8), FRAMES), x.peek(0)}, 1, 8);
        CASES.answers("18 C: a thousand bytes", x -> Rows.story(x, Rows.filled(1000, 9)), x -> new long[] {
            Rows.restored(x, HEAD_CHUNK, Rows.chunk(Rows.C, Rows.filled(1000, 8)), FRAMES), x.peek(0), x.peek(999)}, 1, 8, 8);
    }

    private static int withFrames(Counted x, int... frames) {
        return Rows.restored(x, HEAD_CHUNK, RUNS, Rows.chunk(Rows.D, frames));
    }

    private static int second(Counted x, int... frame) {
        return withFrames(x, Rows.join(Rows.zeros(8), frame));
    }

    private static void frames() {
        CASES.answers("18 D: all of a FRAME", RestoreTest::three, x -> new long[] {
            second(x, 1, 2, 3, 2, 200, 3, 0, 1, 4, 5, 6, 7, 8, 9), x.told(2), x.frame(1, 0), x.frame(1, 1), x.frame(1, 2),
            x.frame(1, 3), x.frame(1, 4), x.frame(1, 10), x.frame(1, 11), x.frame(1, 12), x.frame(1, 13)},
            1, 2, 0x010203, 200, 2, 2, 1, 0x0405, 0x0607, 0x0809, NONE);
        CASES.answers("18 D: it goes on from there", RestoreTest::three, x -> new long[] {
            second(x, 1, 2, 3, 1, 200, 3, 0, 1, 4, 5, 6, 7), x.local(0, 9), x.push(8), x.pop(), x.pop(), x.pop(), x.leave()},
            1, 0x0405, 2, 8, 0x0607, NONE, 0x010203);
    }

    private static void framesAtTheirEdges() {
        CASES.answers("18 D: the first FRAME alone", RestoreTest::three,
            x -> new long[] {withFrames(x, Rows.zeros(8)), x.told(2), x.frame(0, 4)}, 1, 1, 0);
        CASES.answers("18 D: a full STACK of the first", RestoreTest::three, x -> new long[] {
            withFrames(x, Rows.join(Rows.row(0, 0, 0, 0, 0, 0, 0, 40), Rows.filled(80, 255))), x.frame(0, 4), x.frame(0, 49),
            x.push(1)}, 1, 40, 65535, FULL);
        CASES.answers("18 D: everything of a FRAME at its most", RestoreTest::three, x -> new long[] {
            second(x, Rows.join(Rows.row(255, 255, 255, 15, 255, 127, 0, 40), Rows.filled(110, 255))), x.frame(1, 0),
            x.frame(1, 1), x.frame(1, 2), x.frame(1, 3), x.frame(1, 4), x.frame(1, 64)}, 1, 16777215, 255, 7, 15, 40, 65535);
        CASES.answers("18 D: thrown away, no LOCALS", RestoreTest::three,
            x -> new long[] {second(x, 0, 0, 0, 16, 0, 0, 0, 0), x.frame(1, 1), x.frame(1, 3)}, 1, NONE, 0);
        CASES.answers("18 D: thrown away, fifteen LOCALS", RestoreTest::three, x -> new long[] {
            second(x, Rows.join(Rows.row(0, 0, 0, 31, 0, 0, 0, 0), Rows.zeros(30))), x.frame(1, 1), x.frame(1, 3)}, 1, NONE, 15);
        CASES.answers("18 D: RESULT 0 is not thrown away", RestoreTest::three,
            x -> new long[] {second(x, 0, 0, 0, 0, 0, 0, 0, 0), x.frame(1, 1)}, 1, 0);
        int[] marks = {0, 1, 3, 7, 15, 31, 63, 127};
        for (int i = 0; i < 8; i++) {
            int n = i;
            CASES.answers("18 D: ARGUMENTS " + n, RestoreTest::three,
                x -> new long[] {second(x, 0, 0, 0, 0, 0, marks[n], 0, 0), x.frame(1, 2)}, 1, n);
        }
        CASES.answers("18 D: twenty FRAMES", RestoreTest::three,
            x -> new long[] {withFrames(x, Rows.zeros(160)), x.told(2), x.call(0, 0, 0, 0), x.frame(19, 0)}, 1, 20, FULL, 0);
        CASES.answers("18 D: WORDS behind the twentieth FRAME", RestoreTest::three, x -> new long[] {
            withFrames(x, Rows.join(Rows.zeros(152), Rows.row(0, 0, 9, 1, 0, 0, 0, 1, 1, 2, 3, 4))), x.frame(19, 0),
            x.frame(19, 10), x.frame(19, 11)}, 1, 9, 0x0102, 0x0304);
    }

    private static void behindAnother() {
        CASES.answers("18 FRAMES that were more are gone", Cases::rich,
            x -> new long[] {withFrames(x, Rows.zeros(8)), x.told(2), x.frame(1, 0), x.frame(0, 4), x.leave()}, 1, 1, NONE, 0, NONE);
        CASES.answers("18 LOCALS called behind it are 0", RestoreTest::three, x -> new long[] {
            second(x, Rows.join(Rows.row(0, 0, 0, 15, 0, 0, 0, 40), Rows.filled(110, 9))),
            second(x, Rows.join(Rows.row(0, 0, 0, 15, 0, 0, 0, 40), Rows.filled(110, 9))),
            withFrames(x, Rows.zeros(8)), x.call(0, 0, 0, 15), x.frame(1, 10), x.frame(1, 24), x.frame(1, 25)},
            1, 1, 1, 2, 0, 0, NONE);
        CASES.answers("18 a fault between two leaves nothing behind", RestoreTest::three, x -> new long[] {
            withRuns(x, 9, 9, 9, 9), withFrames(x, 0, 0, 0, 0, 0, 0, 0, 1, 0, 7, 9), withRuns(x, 8), x.peek(0), x.peek(1),
            x.told(2), x.frame(0, 4)}, -17, -18, 1, 9, 2, 1, 0);
        CASES.answers("18 STRANGERS of a FILE with a fault are not known", RestoreTest::three, x -> new long[] {
            Rows.restored(x, Rows.chunk(NAME, 1), HEAD_CHUNK, RUNS), x.told(6), Rows.restored(x, HEAD_CHUNK, RUNS, FRAMES),
            x.told(6)}, -20, 0, 1, 0);
    }

    private static void order() {
        CASES.answers("18 D ahead of A", RestoreTest::three,
            x -> new long[] {Rows.restored(x, FRAMES, HEAD_CHUNK, RUNS), x.told(1), x.told(2)}, 1, 77, 1);
        CASES.answers("18 D between A and C", RestoreTest::three, x -> new long[] {
            Rows.restored(x, HEAD_CHUNK, FRAMES, Rows.chunk(Rows.C, 7, 8, 9)), x.peek(0), x.told(1)}, 1, 7, 77);
        CASES.answers("18 STRANGERS ahead of all", RestoreTest::three,
            x -> new long[] {Rows.restored(x, Rows.chunk(NAME, 1), HEAD_CHUNK, RUNS, FRAMES), x.told(6)}, 1, 1);
    }

    /** Nothing is looked at in a second one, and it is no STRANGER. */
    private static void seconds() {
        CASES.answers("18 a second A, another PC", RestoreTest::three,
            x -> new long[] {Rows.restored(x, HEAD_CHUNK, Rows.headChunk(9), RUNS, FRAMES), x.told(1), x.told(6)}, 1, 77, 0);
        CASES.answers("18 a second A, not 13 bytes", RestoreTest::three,
            x -> new long[] {Rows.restored(x, HEAD_CHUNK, RUNS, FRAMES, Rows.chunk(Rows.A, 1)), x.told(1)}, 1, 77);
        CASES.answers("18 a second A, another HEAD", RestoreTest::three,
            x -> new long[] {Rows.restored(x, HEAD_CHUNK, Rows.chunk(Rows.A, Rows.zeros(13)), RUNS, FRAMES), x.told(1)}, 1, 77);
        int[][] firsts = {Rows.chunk(Rows.B, 6), Rows.chunk(Rows.C, 7, 2, 3)};
        int[][] others = {Rows.chunk(Rows.B, 9), Rows.chunk(Rows.B, 1, 1, 1, 1), Rows.chunk(Rows.B, 0),
            Rows.chunk(Rows.C, 9, 9, 9), Rows.chunk(Rows.C, 9)};
        for (int i = 0; i < firsts.length; i++) {
            for (int k = 0; k < others.length; k++) {
                int[] first = firsts[i];
                int[] other = others[k];
                CASES.answers("18 a second one of B and C: " + i + ", " + k, RestoreTest::three,
                    x -> new long[] {Rows.restored(x, HEAD_CHUNK, first, other, FRAMES), x.peek(0), x.peek(1), x.told(6)},
                    1, 7, 2, 0);
            }
        }
        int[] two = Rows.chunk(Rows.D, Rows.zeros(16));
        CASES.answers("18 a second D, other FRAMES", RestoreTest::three,
            x -> new long[] {Rows.restored(x, two, HEAD_CHUNK, RUNS, FRAMES), x.told(2), x.told(6)}, 1, 2, 0);
        CASES.answers("18 a second D, not as told", RestoreTest::three, x -> new long[] {
            Rows.restored(x, two, HEAD_CHUNK, RUNS, Rows.chunk(Rows.D, 1), Rows.chunk(Rows.D)), x.told(2)}, 1, 2);
        CASES.answers("18 a second D, the 21st FRAME and a STACK above 40", RestoreTest::three, x -> new long[] {
            Rows.restored(x, two, HEAD_CHUNK, RUNS, Rows.chunk(Rows.D, Rows.zeros(168)),
                Rows.chunk(Rows.D, 0, 0, 0, 0, 0, 0, 0, 41)), x.told(2)}, 1, 2);
    }

    private static void strangers() {
        CASES.answers("18 no STRANGER", RestoreTest::three,
            x -> new long[] {Rows.restored(x, HEAD_CHUNK, RUNS, FRAMES), x.told(6)}, 1, 0);
        int[] small = Rows.chunk(NAME);
        int[] eight = Rows.join(small, small, small, small, small, small, small, small);
        CASES.answers("18 eight STRANGERS", RestoreTest::three,
            x -> new long[] {Rows.restored(x, HEAD_CHUNK, eight, RUNS, FRAMES), x.told(6)}, 1, 8);
        CASES.answers("18 eight STRANGERS and seconds", RestoreTest::three, x -> new long[] {
            Rows.restored(x, HEAD_CHUNK, eight, RUNS, RUNS, HEAD_CHUNK, FRAMES, FRAMES), x.told(6)}, 1, 8);
        CASES.answers("18 a STRANGER of 200 bytes", RestoreTest::three, x -> new long[] {
            Rows.restored(x, HEAD_CHUNK, Rows.chunk(NAME, Rows.filled(200, 9)), RUNS, FRAMES), x.told(6)}, 1, 1);
        CASES.answers("18 eight STRANGERS, then eight others", RestoreTest::three, x -> new long[] {
            Rows.restored(x, HEAD_CHUNK, eight, RUNS, FRAMES), Rows.restored(x, HEAD_CHUNK, eight, RUNS, FRAMES), x.told(6)},
            1, 1, 8);
        CASES.answers("18 STRANGERS stay behind restart() and undo()", RestoreTest::three, x -> new long[] {
            Rows.restored(x, HEAD_CHUNK, small, RUNS, FRAMES), x.keep(), x.restart(), x.told(6), x.undo(), x.told(6)},
            1, 1, 1, 1, 0, 1);
    }

    private static void asLargeAsCanBe() {
        CASES.answers("18 a FILE of 2,000 bytes", x -> {
            Rows.story(x, 9);
            Rows.onTape(x, Rows.fileOf2000());
        }, x -> new long[] {x.restore(), x.told(2), x.told(6), x.frame(2, 45), x.told(1)}, 1, 3, 8, 0x0505, 7);
        int[][] most = new int[245][];
        Arrays.fill(most, Rows.chunk(Rows.D));
        most[0] = HEAD_CHUNK;
        most[1] = RUNS;
        most[2] = FRAMES;
        most[244] = Rows.chunk(NAME);
        CASES.answers("18 as many CHUNKS as THE TAPE can have, the last one a STRANGER", x -> Rows.story(x, 9),
            x -> new long[] {Rows.file(most).length, Rows.restored(x, most), x.told(6)}, 1994, 1, 1);
    }

    /** MEMORY's byte 17 is 0b0100_00bb now, and would become the STORY's or the FILE's, with each pair of bits. */
    private static void bits() {
        for (int bits = 0; bits < 4; bits++) {
            int now = 0x40 | bits;
            for (int told = 0; told < 4; told++) {
                int[] memory = Rows.with(Rows.filled(20, 255), 17, 0x88 | told);
                String name = bits + " now, " + told + " in the FILE";
                CASES.answers("18 THE BITS stay, C: " + name, x -> {
                    Rows.story(x, Rows.zeros(20));
                    x.poke(17, now);
                }, x -> new long[] {Rows.restored(x, HEAD_CHUNK, Rows.chunk(Rows.C, memory), FRAMES), x.peek(17)},
                    1, 0x88 | now & 3);
                int[] runs = {0, 16, 0x88 | told};
                CASES.answers("18 THE BITS stay, B: " + name, x -> {
                    Rows.story(x, Rows.filled(20, 1));
                    x.poke(17, now);
                }, x -> new long[] {withRuns(x, runs), x.peek(17)}, 1, 0x88 | now & 3);
            }
            CASES.answers("18 THE BITS stay, not told in B: " + bits, x -> {
                Rows.story(x, Rows.filled(20, 0x22));
                x.poke(17, now);
            }, x -> new long[] {withRuns(x), x.peek(17)}, 1, 0x20 | now & 3);
        }
        CASES.answers("18 THE BITS in MEMORY's last byte", x -> {
            Rows.story(x, Rows.zeros(18));
            x.poke(17, 1);
        }, x -> new long[] {Rows.restored(x, HEAD_CHUNK, Rows.chunk(Rows.C, Rows.filled(18, 254)), FRAMES), x.peek(17)}, 1, 253);
        CASES.answers("18 THE BITS stay with a fault", x -> {
            Rows.story(x, Rows.zeros(18));
            x.poke(17, 1);
        }, x -> new long[] {Rows.restored(x, HEAD_CHUNK, Rows.chunk(Rows.C, Rows.filled(18, 254))), x.peek(17)}, -20, 1);
        CASES.answers("18 THE BITS stay in what is SAVED next", x -> {
            Rows.story(x, Rows.zeros(18));
            x.poke(17, 3);
        }, x -> new long[] {withRuns(x), x.told(5), x.save(false), x.chunk(1, 2), x.out(44)}, 1, 11, 62, 3, 3);
    }

    private static void noBits() {
        CASES.answers("18 a MEMORY of 17 bytes has no BITS", x -> {
            Rows.story(x, Rows.zeros(17));
            x.poke(16, 3);
        }, x -> new long[] {withRuns(x), x.peek(16), x.peek(17)}, 1, 0, BAD);
        CASES.answers("18 a MEMORY of one byte has no BITS", x -> {
            Rows.story(x, 0);
            x.poke(0, 3);
        }, x -> new long[] {withRuns(x), x.peek(0)}, 1, 0);
        CASES.answers("18 the bytes beside byte 17 have no BITS", x -> {
            Rows.story(x, Rows.zeros(20));
            x.poke(16, 3);
            x.poke(18, 3);
        }, x -> new long[] {withRuns(x), x.peek(16), x.peek(18)}, 1, 0, 0);
    }
}
