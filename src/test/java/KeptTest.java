/** Promises 24 to 28: KEPT SESSIONS, THE BOUND, beginning again, and what is told. */
public final class KeptTest {
    private static final int BAD = ZSaves.BAD, NONE = ZSaves.NONE, FULL = ZSaves.FULL;
    private static final int LOWEST = Integer.MIN_VALUE, HIGHEST = Integer.MAX_VALUE;
    private static final Cases CASES = new Cases();

    public static void main(String[] args) {
        keep();
        atMostEight();
        weight();
        weightAtItsEdges();
        eldestGo();
        whoStaysIsWhole();
        keepFull();
        largestBound();
        heaviest();
        undo();
        undoAtItsEdges();
        undoRefused();
        bound();
        boundShrinks();
        boundRefused();
        restart();
        bits();
        told();
        toldRefused();
        CASES.finish();
    }

    /** A SESSION that weighs 8 at first, and two more with each WORD. */
    private static void light(Counted x) {
        Rows.story(x, 50);
    }

    private static void keptWith(Counted x, int words) {
        while (x.frame(0, 4) < words) {
            x.push(7);
        }
        while (x.frame(0, 4) > words) {
            x.pop();
        }
        x.keep();
    }

    /** How many WORDS the SESSIONS have that are KEPT, the latest first, and NONE behind them. */
    private static long[] keptWords(Counted x) {
        long[] all = new long[x.told(3) + 1];
        for (int i = 0; i < all.length; i++) {
            all[i] = x.undo() == NONE ? NONE : x.frame(0, 4);
        }
        return all;
    }

    private static void keep() {
        CASES.answers("24 how many are", KeptTest::light, x -> new long[] {x.keep(), x.keep(), x.told(3)}, 1, 2, 2);
        CASES.answers("24 the SESSION stays", Cases::rich, x -> {
            long before = x.print();
            x.keep();
            return new long[] {x.print() - before, x.told(6), x.told(7), x.told(8), x.told(9)};
        }, 0, 2, 20, 120, 104);
        CASES.answers("24 what becomes of the SESSION does not become of the KEPT one", KeptTest::light,
            x -> new long[] {x.push(5), x.keep(), x.pop(), x.push(6), x.poke(0, 9), x.undo(), x.pop(), x.peek(0)},
            1, 1, 5, 1, 50, 0, 5, 50);
    }

    private static void keptTimes(Counted x, int times) {
        light(x);
        for (int i = 0; i < times; i++) {
            keptWith(x, i);
        }
    }

    private static void atMostEight() {
        CASES.answers("24 the eighth", x -> keptTimes(x, 7), x -> new long[] {x.told(3), x.keep(), x.told(3)}, 7, 8, 8);
        CASES.answers("24 the ninth, and the eldest goes", x -> keptTimes(x, 9), KeptTest::keptWords,
            8, 7, 6, 5, 4, 3, 2, 1, NONE);
        CASES.answers("24 eight are all there", x -> keptTimes(x, 8), KeptTest::keptWords, 7, 6, 5, 4, 3, 2, 1, 0, NONE);
        CASES.answers("24 the ninth answers eight", x -> keptTimes(x, 8), x -> new long[] {x.keep(), x.told(3)}, 8, 8);
        CASES.answers("24 the ninth's weight for the eldest's", x -> keptTimes(x, 8),
            x -> new long[] {x.told(4), x.keep(), x.told(4)}, 8 * 8 + 2 * 28, 8, 8 * 8 + 2 * 28 + 14);
        CASES.answers("24 twenty, one after the other", x -> keptTimes(x, 20), KeptTest::keptWords,
            19, 18, 17, 16, 15, 14, 13, 12, NONE);
        CASES.answers("24 a ninth behind an undo() is an eighth", x -> {
            keptTimes(x, 8);
            x.undo();
            keptWith(x, 30);
        }, KeptTest::keptWords, 30, 6, 5, 4, 3, 2, 1, 0, NONE);
    }

    private static void weight() {
        CASES.answers("28 a SESSION that BEGINS weighs its first FRAME", KeptTest::light, x -> new long[] {x.told(5)}, 8);
        CASES.answers("28 a WORD weighs two", KeptTest::light, x -> new long[] {x.push(0), x.told(5)}, 1, 10);
        CASES.answers("28 a FRAME weighs eight and its LOCALS", KeptTest::light,
            x -> new long[] {x.call(0, 0, 0, 0), x.told(5), x.call(0, 0, 0, 15), x.told(5)}, 2, 16, 3, 54);
        CASES.answers("28 the PC weighs nothing", KeptTest::light, x -> new long[] {x.jump(16777215), x.told(5)}, 0, 8);
        CASES.answers("28 a byte that differs weighs one, without the one more", KeptTest::light,
            x -> new long[] {x.poke(0, 51), x.told(5), x.poke(0, 50), x.told(5)}, 50, 9, 51, 8);
        CASES.answers("28 STRANGERS weigh nothing", KeptTest::light, x -> new long[] {
            Rows.restored(x, Rows.headChunk(0), Rows.chunk(Rows.B), Rows.framesChunk(), Rows.chunk(Rows.row(1, 2, 3, 4), 5)),
            x.told(5)}, 1, 8);
        CASES.answers("28 a C is weighed as its B", KeptTest::light, x -> new long[] {
            Rows.restored(x, Rows.headChunk(0), Rows.chunk(Rows.C, 50), Rows.framesChunk()), x.told(5)}, 1, 8);
        CASES.answers("28 what they weigh together", KeptTest::light, x -> new long[] {
            x.keep(), x.told(4), x.push(1), x.keep(), x.told(4), x.poke(0, 1), x.keep(), x.told(4), x.undo(), x.told(4)},
            1, 8, 1, 2, 18, 50, 3, 29, 2, 18);
        CASES.answers("28 what is KEPT weighs what it did", KeptTest::light,
            x -> new long[] {x.keep(), x.push(1), x.told(4), x.told(5)}, 1, 1, 8, 10);
    }

    private static void weightAtItsEdges() {
        int[] at = {1, 255, 256, 257, 512, 999};
        int[] due = {8 + 3, 8 + 3, 8 + 3, 8 + 5, 8 + 5, 8 + 9};
        for (int i = 0; i < at.length; i++) {
            int k = i;
            CASES.answers("28 " + at[i] + " 0s and a byte", x -> Rows.story(x, Rows.zeros(1000)),
                x -> new long[] {x.poke(at[k], 1), x.told(5)}, 0, due[k]);
        }
        CASES.answers("28 twenty FRAMES", x -> {
            light(x);
            for (int i = 1; i < 20; i++) {
                x.call(0, 0, 0, 15);
            }
        }, x -> new long[] {x.told(5), x.keep(), x.told(4)}, 8 + 19 * 38, 1, 8 + 19 * 38);
    }

    private static void eldestGo() {
        CASES.answers("4 together just THE BOUND", x -> {
            light(x);
            x.bound(8 + 10 + 12);
            keptWith(x, 0);
            keptWith(x, 1);
            keptWith(x, 2);
        }, x -> new long[] {x.told(3), x.told(4)}, 3, 30);
        CASES.answers("4 together one more than THE BOUND, and the eldest goes", x -> {
            light(x);
            x.bound(8 + 10 + 12 - 1);
            keptWith(x, 0);
            keptWith(x, 1);
            keptWith(x, 2);
        }, x -> new long[] {x.told(3), x.told(4), x.undo(), x.frame(0, 4), x.undo(), x.frame(0, 4)}, 2, 22, 1, 2, 0, 1);
        CASES.answers("4 the eldest, not the lightest", x -> {
            light(x);
            x.bound(40);
            keptWith(x, 8);
            keptWith(x, 0);
            keptWith(x, 1);
        }, KeptTest::keptWords, 1, 0, NONE);
        CASES.answers("4 the eldest, not the heaviest", x -> {
            light(x);
            x.bound(40);
            keptWith(x, 0);
            keptWith(x, 8);
            keptWith(x, 4);
        }, KeptTest::keptWords, 4, 8, NONE);
        CASES.answers("4 as many go as must, and no more", x -> {
            light(x);
            x.bound(48);
            for (int i = 0; i < 6; i++) {
                keptWith(x, 0);
            }
            keptWith(x, 8);
        }, KeptTest::keptWords, 8, 0, 0, 0, NONE);
        CASES.answers("4 all others go", x -> {
            light(x);
            x.bound(48);
            for (int i = 0; i < 6; i++) {
                keptWith(x, 0);
            }
            keptWith(x, 20);
        }, KeptTest::keptWords, 20, NONE);
        CASES.answers("4 too many and too heavy at once", x -> {
            keptTimes(x, 8);
            x.bound(8 * 8 + 2 * 28);
            keptWith(x, 20);
        }, KeptTest::keptWords, 20, 7, 6, 5, NONE);
        CASES.answers("4 eight of THE BOUND 64, and a ninth", x -> {
            light(x);
            x.bound(64);
            for (int i = 0; i < 9; i++) {
                keptWith(x, 0);
            }
        }, x -> new long[] {x.told(3), x.told(4)}, 8, 64);
    }

    /** Ten SESSIONS, the B of each a byte longer than that of the one before, are KEPT: their prints. */
    private static long[] keptEachHeavier(Counted x) {
        Rows.story(x, Rows.zeros(10));
        long[] prints = new long[10];
        for (int i = 0; i < 10; i++) {
            x.poke(i, 7 + i);
            x.push(i);
            prints[i] = x.print();
            x.keep();
        }
        x.restart();
        return prints;
    }

    /** 0 for each SESSION that comes back with the print that it had, the latest first, and NONE behind the eldest. */
    private static long[] comeBack(Counted x, long[] prints) {
        long[] all = new long[x.told(3) + 1];
        for (int i = 0; i < all.length; i++) {
            all[i] = x.undo() == NONE ? NONE : x.print() - prints[prints.length - 1 - i];
        }
        return all;
    }

    /** Each weighs otherwise, so one that took the place of an elder one without all that is its own would differ. */
    private static void whoStaysIsWhole() {
        CASES.answers("4 those that stay are whole, when the eldest were too many", Cases.NEW,
            x -> comeBack(x, keptEachHeavier(x)), 0, 0, 0, 0, 0, 0, 0, 0, NONE);
        CASES.answers("4 those that stay are whole, when the eldest were too heavy", x -> x.bound(100),
            x -> comeBack(x, keptEachHeavier(x)), 0, 0, NONE);
        CASES.answers("26 those that stay are whole, when THE BOUND falls", Cases.NEW, x -> {
            long[] prints = keptEachHeavier(x);
            x.bound(150);
            return comeBack(x, prints);
        }, 0, 0, 0, 0, NONE);
        CASES.answers("26 those that stay are whole, when THE BOUND falls one by one", Cases.NEW, x -> {
            long[] prints = keptEachHeavier(x);
            for (int n = 230; n >= 150; n--) {
                x.bound(n);
            }
            return comeBack(x, prints);
        }, 0, 0, 0, 0, NONE);
    }

    private static void keepFull() {
        CASES.answers("24 alone just THE BOUND", x -> {
            light(x);
            x.bound(8);
        }, x -> new long[] {x.keep(), x.told(4)}, 1, 8);
        CASES.refused("24 FULL: alone one more than THE BOUND", x -> {
            light(x);
            x.bound(7);
        }, Counted::keep, FULL);
        CASES.refused("24 FULL: THE BOUND is 0", x -> {
            light(x);
            x.bound(0);
        }, Counted::keep, FULL);
        CASES.refused("24 FULL: those that are KEPT stay", x -> {
            light(x);
            x.bound(21);
            keptWith(x, 0);
            keptWith(x, 1);
            for (int i = 0; i < 6; i++) {
                x.push(9);
            }
        }, Counted::keep, FULL);
        CASES.refused("24 FULL: eight that are KEPT stay", x -> {
            keptTimes(x, 8);
            x.bound(120);
            for (int i = 0; i < 33; i++) {
                x.push(9);
            }
            x.call(0, 0, 0, 15);
        }, Counted::keep, FULL);
        CASES.answers("24 just the 1,000 of THE BOUND at first", x -> heavy(x, 992), x -> new long[] {x.told(5), x.keep()}, 1000, 1);
        CASES.refused("24 FULL: 1,001 and THE BOUND at first", x -> heavy(x, 993), Counted::keep, FULL);
        CASES.answers("24 room again under a larger BOUND", x -> heavy(x, 993),
            x -> new long[] {x.keep(), x.bound(1001), x.keep(), x.told(4)}, FULL, 1000, 1, 1001);
    }

    /** A MEMORY of a thousand bytes, so many of which differ; and eight are the first FRAME's. */
    private static void heavy(Counted x, int differ) {
        Rows.story(x, Rows.zeros(1000));
        // THE BITS stay 0 when it is restored: in 252 they are 0 already.
        int[] memory = Rows.join(Rows.filled(differ, 252), Rows.zeros(1000 - differ));
        Rows.restored(x, Rows.headChunk(0), Rows.chunk(Rows.C, memory), Rows.framesChunk());
    }

    private static void largestBound() {
        int[] memory = Rows.everySecond(252);
        Cases.Steps longest = x -> {
            Rows.story(x, Rows.zeros(1000));
            Rows.restored(x, Rows.headChunk(0), Rows.chunk(Rows.C, memory), Rows.framesChunk());
        };
        CASES.refused("24 FULL: the longest B and THE BOUND at first", longest, Counted::keep, FULL);
        CASES.answers("24 the longest B, as often as 10,000 has room", longest, x -> new long[] {x.bound(10000), x.told(5),
            x.keep(), x.keep(), x.keep(), x.keep(), x.keep(), x.keep(), x.told(4), x.keep(), x.told(4)},
            1000, 1508, 1, 2, 3, 4, 5, 6, 9048, 6, 9048);
        CASES.answers("25 the longest B comes back", longest, x -> {
            long print = x.print();
            x.bound(10000);
            x.keep();
            x.restart();
            return new long[] {x.undo(), x.print() - print};
        }, 0, 0);
        // 1,250: 414 RUNS of 1 with their bytes are 1,242, and eight are the first FRAME's.
        int[] some = Rows.zeros(1000);
        for (int i = 0; i < 414; i++) {
            some[2 * i + 1] = 252;
        }
        Cases.Steps eighth = x -> {
            Rows.story(x, Rows.zeros(1000));
            Rows.restored(x, Rows.headChunk(0), Rows.chunk(Rows.C, some), Rows.framesChunk());
            x.bound(10000);
            for (int i = 0; i < 8; i++) {
                x.jump(i);
                x.keep();
            }
        };
        CASES.answers("26 eight weigh just 10,000", eighth, x -> new long[] {x.told(3), x.told(4)}, 8, 10000);
        CASES.answers("26 the ninth is a byte too heavy: two go", eighth,
            x -> new long[] {x.push(1), x.keep(), x.told(4)}, 1, 7, 6 * 1250 + 1252);
        CASES.answers("25 eight that weigh 10,000 come back", eighth, x -> {
            long[] pcs = new long[9];
            for (int i = 0; i < 9; i++) {
                pcs[i] = x.undo() == NONE ? NONE : x.told(1);
            }
            return pcs;
        }, 7, 6, 5, 4, 3, 2, 1, 0, NONE);
    }

    private static void heaviest() {
        CASES.answers("28 the longest B beside a long D", Rows::heaviest,
            x -> new long[] {x.told(2), x.told(5)}, 20, Rows.HEAVIEST);
        CASES.answers("24 FULL: the longest B beside a long D, one more than THE BOUND", x -> {
            Rows.heaviest(x);
            x.bound(Rows.HEAVIEST - 1);
        }, x -> {
            long print = x.print();
            return new long[] {x.keep(), x.told(3), x.told(4), x.told(5), x.print() - print};
        }, FULL, 0, 0, Rows.HEAVIEST, 0);
        CASES.answers("24 the longest B beside a long D, just THE BOUND", x -> {
            Rows.heaviest(x);
            x.bound(Rows.HEAVIEST);
        }, x -> new long[] {x.keep(), x.told(4), x.keep(), x.told(4)}, 1, Rows.HEAVIEST, 1, Rows.HEAVIEST);
        CASES.answers("26 the longest B beside a long D, as often as 10,000 has room", Rows::heaviest,
            x -> new long[] {x.bound(10000), x.keep(), x.keep(), x.keep(), x.told(4)}, 1000, 1, 2, 2, 2 * Rows.HEAVIEST);
        CASES.answers("25 the longest B beside a long D comes back", Rows::heaviest, x -> {
            long print = x.print();
            x.bound(10000);
            x.keep();
            x.restart();
            return new long[] {x.undo(), x.print() - print};
        }, 0, 0);
    }

    private static void undo() {
        CASES.answers("25 the whole SESSION", Cases::rich, x -> {
            x.poke(0, 1);
            x.poke(19, 255);
            x.jump(0xABCDEF);
            x.call(0xFEDCBA, NONE, 7, 15);
            x.local(14, 65535);
            x.push(65535);
            long print = x.print();
            x.keep();
            x.pop();
            x.leave();
            x.leave();
            x.pop();
            x.poke(0, 2);
            x.poke(5, 2);
            return new long[] {x.undo(), x.print() - print, x.told(1), x.told(2), x.frame(2, 0), x.frame(2, 1), x.frame(2, 24)};
        }, 2, 0, 0xFEDCBA, 3, 0xABCDEF, NONE, 65535);
        CASES.answers("25 the one that was KEPT latest, then the one before", KeptTest::light,
            x -> new long[] {x.keep(), x.push(1), x.keep(), x.push(2), x.undo(), x.frame(0, 4), x.undo(), x.frame(0, 4)},
            1, 1, 2, 2, 1, 1, 0, 0);
        CASES.answers("25 THE TAPE, THE OUT, the disk and STRANGERS stay", Cases::rich,
            x -> new long[] {x.undo(), x.told(7), x.told(8), x.told(9), x.told(6)}, 1, 20, 120, 104, 2);
        CASES.answers("25 why(), a cut and THE BOUND stay", Cases::rich,
            x -> new long[] {x.undo(), x.why(0), x.why(1), x.write(), x.bound(0)}, 1, 1, 0, 0, 900);
        CASES.answers("25 it can be KEPT again", KeptTest::light,
            x -> new long[] {x.keep(), x.undo(), x.keep(), x.undo(), x.undo()}, 1, 0, 1, 0, NONE);
    }

    private static void undoAtItsEdges() {
        CASES.answers("25 twenty FRAMES from one", x -> {
            light(x);
            for (int i = 1; i < 20; i++) {
                x.jump(i);
                x.call(0, i, 7, 0);
            }
            x.keep();
            x.restart();
        }, x -> new long[] {x.undo(), x.told(2), x.frame(19, 0), x.frame(19, 1), x.call(0, 0, 0, 0)}, 0, 20, 19, 19, FULL);
        CASES.answers("25 one FRAME from twenty", x -> {
            light(x);
            x.keep();
            for (int i = 1; i < 20; i++) {
                x.call(0, i, 7, 0);
            }
        }, x -> new long[] {x.undo(), x.told(2), x.leave()}, 0, 1, NONE);
        CASES.answers("25 a full STACK", x -> {
            light(x);
            keptWith(x, 40);
            x.restart();
        }, x -> new long[] {x.undo(), x.frame(0, 4), x.frame(0, 49), x.push(1)}, 0, 40, 7, FULL);
        CASES.answers("25 the last byte of a thousand", x -> {
            Rows.story(x, Rows.zeros(1000));
            x.poke(999, 9);
            x.keep();
            x.restart();
        }, x -> new long[] {x.peek(999), x.undo(), x.peek(999), x.peek(998)}, 0, 0, 9, 0);
        CASES.answers("25 the largest PC", x -> {
            light(x);
            x.jump(16777215);
            x.keep();
            x.jump(0);
        }, x -> new long[] {x.undo(), x.told(1)}, 0, 16777215);
        CASES.answers("25 behind a restore()", x -> {
            light(x);
            x.push(9);
            x.keep();
            Rows.restored(x, Rows.headChunk(77), Rows.chunk(Rows.B, 1), Rows.framesChunk());
        }, x -> new long[] {x.peek(0), x.told(1), x.undo(), x.peek(0), x.told(1), x.pop()}, 51, 77, 0, 50, 0, 9);
        CASES.answers("25 behind a restore() with a fault", x -> {
            light(x);
            x.push(9);
            x.keep();
            x.pop();
            Rows.restored(x, Rows.headChunk(77), Rows.chunk(Rows.B, 1));
        }, x -> new long[] {x.undo(), x.pop()}, 0, 9);
    }

    private static void undoRefused() {
        CASES.refused("25 NONE: none was KEPT", x -> {
            Cases.rich(x);
            x.undo();
            x.undo();
        }, Counted::undo, NONE);
        CASES.refused("25 NONE: a SESSION that BEGINS", KeptTest::light, Counted::undo, NONE);
        CASES.refused("25 NONE: all went under THE BOUND", x -> {
            Cases.rich(x);
            x.bound(0);
        }, Counted::undo, NONE);
        CASES.refused("25 NONE: the only one was too heavy", x -> {
            light(x);
            x.bound(7);
            x.keep();
        }, Counted::undo, NONE);
    }

    private static void bound() {
        CASES.answers("26 1,000 at first", Cases.NEW, x -> new long[] {x.bound(1000), x.bound(1000)}, 1000, 1000);
        CASES.answers("26 0", KeptTest::light, x -> new long[] {x.bound(0), x.bound(5)}, 1000, 0);
        CASES.answers("26 10,000", KeptTest::light, x -> new long[] {x.bound(10000), x.bound(5)}, 1000, 10000);
        CASES.answers("26 without a STORY, and it holds for the one that comes", x -> x.bound(7), x -> {
            light(x);
            return new long[] {x.keep(), x.bound(8), x.keep()};
        }, FULL, 7, 1);
        CASES.answers("26 restart() and undo() leave it", x -> {
            light(x);
            x.bound(500);
            x.keep();
        }, x -> new long[] {x.restart(), x.undo(), x.bound(0)}, 1, 0, 500);
    }

    private static void threeOf8(Counted x) {
        light(x);
        for (int i = 1; i <= 3; i++) {
            x.jump(i);
            x.keep();
        }
    }

    private static void boundShrinks() {
        CASES.answers("26 just what they weigh", KeptTest::threeOf8, x -> new long[] {x.bound(24), x.told(3), x.told(4)}, 1000, 3, 24);
        CASES.answers("26 one below: the eldest goes at once", KeptTest::threeOf8,
            x -> new long[] {x.bound(23), x.told(3), x.told(4), x.undo(), x.told(1), x.undo(), x.told(1), x.undo()},
            1000, 2, 16, 1, 3, 0, 2, NONE);
        CASES.answers("26 two of three go", KeptTest::threeOf8,
            x -> new long[] {x.bound(15), x.told(3), x.told(4), x.undo(), x.told(1)}, 1000, 1, 8, 0, 3);
        CASES.answers("26 just the latest", KeptTest::threeOf8, x -> new long[] {x.bound(8), x.told(3), x.told(4)}, 1000, 1, 8);
        CASES.answers("26 one below the latest: all go", KeptTest::threeOf8,
            x -> new long[] {x.bound(7), x.told(3), x.told(4)}, 1000, 0, 0);
        CASES.answers("26 0: all eight go", x -> keptTimes(x, 8), x -> new long[] {x.bound(0), x.told(3), x.told(4)}, 1000, 0, 0);
        CASES.answers("26 those that went do not come back", KeptTest::threeOf8,
            x -> new long[] {x.bound(8), x.bound(1000), x.told(3), x.told(4)}, 1000, 8, 1, 8);
        CASES.answers("26 the SESSION stays, though it would weigh more", KeptTest::threeOf8,
            x -> new long[] {x.bound(0), x.told(1), x.told(5)}, 1000, 3, 8);
        CASES.answers("26 the eldest goes though the latest is the heaviest", x -> {
            light(x);
            keptWith(x, 0);
            keptWith(x, 1);
            keptWith(x, 10);
            x.bound(28 + 9);
        }, KeptTest::keptWords, 10, NONE);
    }

    private static void boundRefused() {
        CASES.refused("26 BAD: -1", Cases::rich, x -> x.bound(-1), BAD);
        CASES.refused("26 BAD: NONE", Cases::rich, x -> x.bound(NONE), BAD);
        CASES.refused("26 BAD: 10,001", Cases::rich, x -> x.bound(10001), BAD);
        CASES.refused("26 BAD: the lowest number", Cases::rich, x -> x.bound(LOWEST), BAD);
        CASES.refused("26 BAD: the highest number", Cases::rich, x -> x.bound(HIGHEST), BAD);
        CASES.refused("26 BAD: without a STORY", Cases.NEW, x -> x.bound(-1), BAD);
    }

    private static void restart() {
        CASES.answers("27 the SESSION BEGINS again", x -> {
            Rows.story(x, 1, 2, 3);
            x.poke(0, 9);
            x.poke(2, 9);
            x.push(4);
            x.jump(16777215);
            x.call(16777215, 2, 3, 4);
            x.push(4);
        }, x -> new long[] {x.restart(), x.peek(0), x.peek(2), x.told(1), x.told(2), x.frame(0, 4), x.pop(), x.told(5)},
            1, 1, 3, 0, 1, 0, NONE, 8);
        CASES.answers("27 as it began, to the last bit", x -> Rows.story(x, 1, 2, 3), x -> {
            long print = x.print();
            x.poke(1, 9);
            x.call(1, 1, 1, 1);
            return new long[] {x.restart(), x.print() - print};
        }, 1, 0);
        CASES.answers("27 a SESSION that BEGINS", KeptTest::light, x -> {
            long print = x.print();
            return new long[] {x.restart(), x.print() - print};
        }, 1, 0);
        CASES.answers("27 twenty FRAMES become one", x -> {
            light(x);
            for (int i = 1; i < 20; i++) {
                x.call(9, 9, 7, 15);
            }
        }, x -> new long[] {x.restart(), x.told(2), x.leave(), x.frame(1, 0)}, 1, 1, NONE, NONE);
        CASES.answers("27 a thousand bytes", x -> heavy(x, 1000), x -> new long[] {x.restart(), x.peek(0), x.peek(999)}, 1, 0, 0);
        CASES.answers("27 what is KEPT stays", Cases::rich, x -> {
            long weight = x.told(4);
            return new long[] {x.restart(), x.told(3), x.told(4) - weight, x.undo(), x.told(2)};
        }, 1, 2, 0, 1, 2);
        CASES.answers("27 THE TAPE, THE OUT, the disk and STRANGERS stay", Cases::rich,
            x -> new long[] {x.restart(), x.told(7), x.told(8), x.told(9), x.told(6)}, 1, 20, 120, 104, 2);
        CASES.answers("27 why(), a cut and THE BOUND stay", Cases::rich,
            x -> new long[] {x.restart(), x.why(0), x.why(1), x.write(), x.bound(0)}, 1, 1, 0, 0, 900);
    }

    /** MEMORY's byte 17, with each pair of bits now and each pair in the SESSION that comes. */
    private static void bits() {
        for (int now = 0; now < 4; now++) {
            for (int then = 0; then < 4; then++) {
                int nowByte = 0x40 | now;
                int thenByte = 0x88 | then;
                String name = now + " now, " + then + " then";
                CASES.answers("25 THE BITS stay: " + name, x -> {
                    Rows.story(x, Rows.filled(18, 0x11));
                    x.poke(17, thenByte);
                    x.keep();
                    x.poke(17, nowByte);
                }, x -> new long[] {x.undo(), x.peek(17)}, 0, 0x88 | now);
                CASES.answers("27 THE BITS stay: " + name, x -> {
                    Rows.story(x, Rows.filled(18, thenByte));
                    x.poke(17, nowByte);
                }, x -> new long[] {x.restart(), x.peek(17), x.peek(16)}, 1, 0x88 | now, thenByte);
            }
        }
        CASES.answers("25 a MEMORY of 17 bytes has no BITS", x -> Rows.story(x, Rows.zeros(17)),
            x -> new long[] {x.keep(), x.poke(16, 3), x.undo(), x.peek(16), x.peek(17)}, 1, 0, 0, 0, BAD);
        CASES.answers("27 a MEMORY of 17 bytes has no BITS", x -> Rows.story(x, Rows.zeros(17)),
            x -> new long[] {x.poke(16, 3), x.restart(), x.peek(16), x.peek(17)}, 0, 1, 0, BAD);
        CASES.answers("25 the bytes beside byte 17 have none", x -> Rows.story(x, Rows.zeros(19)),
            x -> new long[] {x.keep(), x.poke(16, 3), x.poke(18, 3), x.undo(), x.peek(16), x.peek(18)}, 1, 0, 0, 0, 0, 0);
        CASES.answers("27 the bytes beside byte 17 have none", x -> Rows.story(x, Rows.zeros(19)),
            x -> new long[] {x.poke(16, 3), x.poke(18, 3), x.restart(), x.peek(16), x.peek(18)}, 0, 0, 1, 0, 0);
        CASES.answers("27 THE BITS that stay weigh", x -> Rows.story(x, Rows.zeros(18)),
            x -> new long[] {x.poke(17, 3), x.restart(), x.told(5)}, 0, 1, 8 + 3);
        CASES.answers("25 THE BITS stay through several", x -> Rows.story(x, Rows.zeros(18)), x -> new long[] {
            x.keep(), x.poke(17, 1), x.keep(), x.poke(17, 2), x.undo(), x.peek(17), x.undo(), x.peek(17)},
            1, 0, 2, 1, 1, 2, 0, 2);
        CASES.answers("4 a KEPT SESSION weighs with the BITS that it had", x -> Rows.story(x, Rows.zeros(18)),
            x -> new long[] {x.poke(17, 1), x.keep(), x.poke(17, 0), x.told(4), x.undo(), x.told(5)}, 0, 1, 1, 11, 0, 8);
    }

    private static void told() {
        CASES.answers("28 each of them", Cases::rich, x -> {
            long[] all = new long[10];
            for (int what = 0; what < 10; what++) {
                all[what] = x.told(what);
            }
            return all;
        }, 20, 50, 2, 2, 14 + 34, 35, 2, 20, 120, 104);
        CASES.answers("28 1,000 bytes of MEMORY", x -> Rows.story(x, Rows.zeros(1000)), x -> new long[] {x.told(0)}, 1000);
        CASES.answers("28 nothing KEPT weighs nothing", KeptTest::light, x -> new long[] {x.told(3), x.told(4)}, 0, 0);
        CASES.answers("28 a FILE of no bytes is one", x -> x.write(), x -> new long[] {x.told(9)}, 0);
        for (int what = 0; what < 10; what++) {
            int k = what;
            long[] due = {20, 50, 2, 2, 14 + 34, 35, 2, 20, 120, 104};
            CASES.refused("28 it changes nothing: " + k, Cases::rich, x -> x.told(k), due[k]);
        }
    }

    private static void toldRefused() {
        CASES.refused("28 BAD: -1", Cases::rich, x -> x.told(-1), BAD);
        CASES.refused("28 BAD: 10", Cases::rich, x -> x.told(10), BAD);
        CASES.refused("28 BAD: the lowest number", Cases::rich, x -> x.told(LOWEST), BAD);
        CASES.refused("28 BAD: the highest number", Cases::rich, x -> x.told(HIGHEST), BAD);
        CASES.refused("28 BAD: -1 without a STORY", Cases.NEW, x -> x.told(-1), BAD);
        CASES.refused("28 BAD: 10 without a STORY", Cases.NEW, x -> x.told(10), BAD);
    }
}
