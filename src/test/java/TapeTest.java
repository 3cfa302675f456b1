/** Promises 1 to 6: a new object, THE TAPE, THE OUT, a STORY. */
public final class TapeTest {
    private static final int BAD = ZSaves.BAD, NONE = ZSaves.NONE, FULL = ZSaves.FULL, STATE = ZSaves.STATE;
    private static final int LOWEST = Integer.MIN_VALUE, HIGHEST = Integer.MAX_VALUE;
    private static final Cases CASES = new Cases();

    public static void main(String[] args) {
        newObject();
        twoObjects();
        withoutStory();
        stateAheadOfAll();
        feed();
        feedAtItsEdges();
        end();
        endRefused();
        out();
        back();
        story();
        storyAtItsEdges();
        storyAgain();
        lastCall();
        CASES.finish();
    }

    private static void newObject() {
        CASES.answers("1 no STORY", Cases.NEW, x -> new long[] {x.told(0), x.told(2), x.print()}, 0, 0, 0);
        CASES.answers("1 nothing on the disk", Cases.NEW, x -> new long[] {x.told(9), x.load()}, NONE, NONE);
        CASES.answers("1 nothing is KEPT", Cases.NEW, x -> new long[] {x.told(3), x.told(4)}, 0, 0);
        CASES.answers("1 no STRANGERS", Cases.NEW, x -> new long[] {x.told(6)}, 0);
        CASES.answers("1 an empty TAPE", Cases.NEW, x -> new long[] {x.told(7)}, 0);
        CASES.answers("1 an empty OUT", Cases.NEW, x -> new long[] {x.told(8)}, 0);
        CASES.answers("28 no PC and no weight without a STORY", Cases.NEW, x -> new long[] {x.told(1), x.told(5)}, 0, 0);
        CASES.answers("19 no fault ahead of the first restore()", Cases.NEW, x -> new long[] {x.why(0), x.why(1)}, 0, NONE);
    }

    private static void twoObjects() {
        CASES.answers("1 a new object knows nothing of another one", Cases::rich, x -> {
            Counted other = new Counted();
            return new long[] {other.told(0), other.told(3), other.told(6), other.told(7), other.told(8), other.told(9),
                other.why(0), other.chunk(0, 0), other.bound(5), x.told(3), x.bound(6)};
        }, 0, 0, 0, 0, 0, NONE, 0, NONE, 1000, 2, 900);
    }

    /** On the disk, for the next write(), for THE BOUND and on THE TAPE there is something to lose. */
    private static void blank(Counted x) {
        x.write();
        x.cut(0);
        x.bound(900);
        x.feed(1, 2, 3, 4, 5);
    }

    private static void withoutStory() {
        CASES.refused("7 STATE: poke", TapeTest::blank, x -> x.poke(0, 0), STATE);
        CASES.refused("8 STATE: peek", TapeTest::blank, x -> x.peek(0), STATE);
        CASES.refused("9 STATE: jump", TapeTest::blank, x -> x.jump(7), STATE);
        CASES.refused("10 STATE: call", TapeTest::blank, x -> x.call(7, 7, 7, 7), STATE);
        CASES.refused("11 STATE: leave", TapeTest::blank, Counted::leave, STATE);
        CASES.refused("12 STATE: local", TapeTest::blank, x -> x.local(0, 0), STATE);
        CASES.refused("13 STATE: push", TapeTest::blank, x -> x.push(7), STATE);
        CASES.refused("14 STATE: pop", TapeTest::blank, Counted::pop, STATE);
        CASES.refused("15 STATE: frame", TapeTest::blank, x -> x.frame(0, 0), STATE);
        CASES.refused("16 print is 0", TapeTest::blank, Counted::print, 0);
        CASES.refused("17 STATE: save with B", TapeTest::blank, x -> x.save(false), STATE);
        CASES.refused("17 STATE: save with C", TapeTest::blank, x -> x.save(true), STATE);
        CASES.refusedReading("18 STATE: restore", TapeTest::blank, Counted::restore, STATE);
        CASES.refusedReading("18 STATE: restore of a FILE", x -> {
            blank(x);
            Rows.onTape(x, Rows.file(Rows.headChunk(5), Rows.chunk(Rows.B), Rows.framesChunk()));
        }, Counted::restore, STATE);
        CASES.refusedReading("18 STATE: restore of an empty TAPE", x -> x.bound(900), Counted::restore, STATE);
        CASES.refused("24 STATE: keep", TapeTest::blank, Counted::keep, STATE);
        CASES.refused("25 STATE: undo", TapeTest::blank, Counted::undo, STATE);
        CASES.refused("27 STATE: restart", TapeTest::blank, Counted::restart, STATE);
        CASES.refused("20 NONE: chunk, behind a save() that was refused", x -> x.save(false), x -> x.chunk(0, 0), NONE);
    }

    private static void stateAheadOfAll() {
        CASES.refused("7 STATE ahead of BAD", TapeTest::blank, x -> x.poke(-1, 256), STATE);
        CASES.refused("8 STATE ahead of BAD", TapeTest::blank, x -> x.peek(-1), STATE);
        CASES.refused("9 STATE ahead of BAD", TapeTest::blank, x -> x.jump(-1), STATE);
        CASES.refused("10 STATE ahead of BAD", TapeTest::blank, x -> x.call(-1, -1, -1, -1), STATE);
        CASES.refused("12 STATE ahead of BAD", TapeTest::blank, x -> x.local(-1, -1), STATE);
        CASES.refused("13 STATE ahead of BAD", TapeTest::blank, x -> x.push(-1), STATE);
        CASES.refused("15 STATE ahead of NONE", TapeTest::blank, x -> x.frame(-1, 0), STATE);
        CASES.refused("15 STATE ahead of BAD", TapeTest::blank, x -> x.frame(0, -1), STATE);
        CASES.refused("24 STATE ahead of FULL", x -> x.bound(0), Counted::keep, STATE);
    }

    private static void fed(Counted x) {
        x.feed(0x01020304, 0x05060708, 0x090A0B0C, 0x0D0E0F10, 0x11121314);
    }

    private static void feed() {
        CASES.answers("2 twenty bytes on an empty TAPE", Cases.NEW,
            x -> new long[] {x.feed(1, 2, 3, 4, 5), x.told(7)}, 20, 20);
        CASES.answers("2 each number's highest byte first", TapeTest::fed, Rows::tapeOf,
            1, 2, 3, 4, 5, 6, 7, 8, 9, 10, 11, 12, 13, 14, 15, 16, 17, 18, 19, 20);
        CASES.answers("2 numbers below 0, and the largest", x -> x.feed(-1, LOWEST, -2, HIGHEST, 0x80FF7F00), Rows::tapeOf,
            255, 255, 255, 255, 128, 0, 0, 0, 255, 255, 255, 254, 127, 255, 255, 255, 128, 255, 127, 0);
        CASES.answers("2 behind what THE TAPE has", x -> {
            fed(x);
            x.end(11);
            fed(x);
        }, Rows::tapeOf, 1, 2, 3, 4, 5, 6, 7, 8, 9, 10, 11,
            1, 2, 3, 4, 5, 6, 7, 8, 9, 10, 11, 12, 13, 14, 15, 16, 17, 18, 19, 20);
    }

    private static void fedTo(Counted x, int n) {
        for (int i = 0; i < n; i += 20) {
            fed(x);
        }
        x.end(n);
    }

    private static void feedAtItsEdges() {
        CASES.answers("2 the last twenty that have room", x -> fedTo(x, 1980),
            x -> new long[] {x.feed(1, 2, 3, 4, 5), x.told(7)}, 2000, 2000);
        CASES.answers("2 room for more than twenty", x -> fedTo(x, 1979), x -> new long[] {x.feed(1, 2, 3, 4, 5)}, 1999);
        CASES.refused("2 FULL: room for nineteen", x -> fedTo(x, 1981), x -> x.feed(1, 2, 3, 4, 5), FULL);
        CASES.refused("2 FULL: room for one", x -> fedTo(x, 1999), x -> x.feed(1, 2, 3, 4, 5), FULL);
        CASES.refused("2 FULL: no room", x -> fedTo(x, 2000), x -> x.feed(1, 2, 3, 4, 5), FULL);
        CASES.answers("2 room again, when bytes went", x -> fedTo(x, 2000),
            x -> new long[] {x.end(1980), x.feed(1, 2, 3, 4, 5)}, 20, 2000);
    }

    private static void end() {
        CASES.answers("3 the first ones stay", TapeTest::fed, x -> {
            x.end(12);
            return Rows.tapeOf(x);
        }, 1, 2, 3, 4, 5, 6, 7, 8, 9, 10, 11, 12);
        CASES.answers("3 all stay", TapeTest::fed, x -> new long[] {x.end(20), x.told(7)}, 0, 20);
        CASES.answers("3 one goes", TapeTest::fed, x -> new long[] {x.end(19), x.told(7)}, 1, 19);
        CASES.answers("3 one stays", TapeTest::fed, x -> new long[] {x.end(1), x.told(7)}, 19, 1);
        CASES.answers("3 none stays", TapeTest::fed, x -> new long[] {x.end(0), x.told(7)}, 20, 0);
        CASES.answers("3 none of an empty TAPE", Cases.NEW, x -> new long[] {x.end(0)}, 0);
        CASES.answers("3 none of a full TAPE", x -> fedTo(x, 2000), x -> new long[] {x.end(0), x.told(7)}, 2000, 0);
        CASES.answers("3 what went does not come back", TapeTest::fed,
            x -> new long[] {x.end(5), x.end(6), x.told(7)}, 15, BAD, 5);
    }

    private static void endRefused() {
        CASES.refused("3 BAD: one below 0", Cases::rich, x -> x.end(-1), BAD);
        CASES.refused("3 BAD: NONE", Cases::rich, x -> x.end(NONE), BAD);
        CASES.refused("3 BAD: the lowest number", Cases::rich, x -> x.end(LOWEST), BAD);
        CASES.refused("3 BAD: one more than there are", Cases::rich, x -> x.end(21), BAD);
        CASES.refused("3 BAD: the highest number", Cases::rich, x -> x.end(HIGHEST), BAD);
        CASES.refused("3 BAD: one of an empty TAPE", Cases.NEW, x -> x.end(1), BAD);
        CASES.refused("3 BAD: 2,001 of a full TAPE", x -> fedTo(x, 2000), x -> x.end(2001), BAD);
    }

    /** A FILE of 60 bytes, the first one a 70, the last one a 0. */
    private static void saved(Counted x) {
        Rows.story(x, 9, 8);
        x.save(true);
    }

    private static void out() {
        CASES.saved("4 each byte", x -> Rows.story(x, 9, 8), true,
            Rows.file(Rows.headChunk(0), Rows.chunk(Rows.C, 9, 8), Rows.framesChunk()));
        CASES.answers("4 the first and the last byte", TapeTest::saved, x -> new long[] {x.out(0), x.out(59)}, 70, 0);
        CASES.answers("4 a byte above 127", x -> {
            Rows.story(x, 255, 128);
            x.save(true);
        }, x -> new long[] {x.out(42), x.out(43)}, 255, 128);
        CASES.answers("4 of the latest save()", x -> {
            saved(x);
            x.push(1);
            x.save(true);
            x.pop();
            x.save(true);
        }, x -> new long[] {x.out(59), x.out(60), x.out(61)}, 0, BAD, BAD);
        CASES.refused("4 BAD: below 0", TapeTest::saved, x -> x.out(-1), BAD);
        CASES.refused("4 BAD: behind the last", TapeTest::saved, x -> x.out(60), BAD);
        CASES.refused("4 BAD: the lowest number", TapeTest::saved, x -> x.out(LOWEST), BAD);
        CASES.refused("4 BAD: the highest number", TapeTest::saved, x -> x.out(HIGHEST), BAD);
        CASES.refused("4 BAD: of an empty OUT", Cases.NEW, x -> x.out(0), BAD);
    }

    private static void savedOf2000(Counted x) {
        Rows.story(x, 9);
        Rows.onTape(x, Rows.fileOf2000());
        x.restore();
    }

    private static void back() {
        CASES.answers("5 THE OUT stays", TapeTest::saved,
            x -> new long[] {x.back(), x.told(7), x.told(8), x.back()}, 60, 60, 60, 60);
        CASES.answers("5 it is THE TAPE, not behind it", TapeTest::saved, x -> {
            fed(x);
            x.back();
            return Rows.tapeOf(x);
        }, Rows.longs(Rows.file(Rows.headChunk(0), Rows.chunk(Rows.C, 9, 8), Rows.framesChunk())));
        CASES.answers("5 what becomes of THE TAPE does not become of THE OUT", TapeTest::saved, x -> {
            x.back();
            x.end(20);
            fed(x);
            return Rows.outOf(x, 0, 100);
        }, Rows.longs(Rows.file(Rows.headChunk(0), Rows.chunk(Rows.C, 9, 8), Rows.framesChunk())));
        CASES.answers("5 what becomes of THE OUT does not become of THE TAPE", TapeTest::saved, x -> {
            x.back();
            x.poke(0, 77);
            x.jump(0x112233);
            x.save(true);
            return Rows.tapeOf(x);
        }, Rows.longs(Rows.file(Rows.headChunk(0), Rows.chunk(Rows.C, 9, 8), Rows.framesChunk())));
        CASES.answers("5 an empty OUT empties THE TAPE", TapeTest::fed, x -> new long[] {x.back(), x.told(7)}, 0, 0);
        CASES.answers("5 a full TAPE makes room for it", x -> {
            saved(x);
            fedTo(x, 2000);
        }, x -> new long[] {x.back(), x.told(7)}, 60, 60);
        CASES.answers("5 just 2,000 bytes", TapeTest::savedOf2000,
            x -> new long[] {x.save(false), x.back(), x.told(7), x.restore()}, 2000, 2000, 2000, 1);
        CASES.refused("5 FULL: 2,002 bytes", x -> {
            savedOf2000(x);
            x.push(1);
            x.save(false);
            fed(x);
        }, Counted::back, FULL);
    }

    private static void story() {
        CASES.answers("6 a HEAD, and its bytes", x -> Rows.onTape(x, Rows.join(Rows.HEAD, Rows.row(21, 0, 255))),
            x -> new long[] {x.story(), x.peek(0), x.peek(1), x.peek(2), x.told(0)}, 3, 21, 0, 255, 3);
        CASES.saved("6 the HEAD is the STORY's", x -> {
            Rows.onTape(x, 255, 254, 253, 252, 251, 250, 249, 248, 247, 246, 9);
            x.story();
        }, false, Rows.file(Rows.chunk(Rows.A, 255, 254, 253, 252, 251, 250, 249, 248, 247, 246, 0, 0, 0),
            Rows.chunk(Rows.B), Rows.framesChunk()));
        CASES.answers("6 THE TAPE is empty behind it", TapeTest::fed, x -> new long[] {x.story(), x.told(7)}, 10, 0);
        CASES.answers("6 what comes on THE TAPE behind it is not the STORY's", x -> Rows.story(x, 9, 8), x -> {
            Rows.onTape(x, Rows.filled(20, 99));
            return new long[] {x.restart(), x.peek(0), x.peek(1), x.save(true), x.out(20), x.out(29)};
        }, 1, 9, 8, 60, 1, 10);
        CASES.answers("1 a SESSION BEGINS: PC 0, one FRAME", x -> Rows.story(x, 9),
            x -> new long[] {x.told(1), x.told(2)}, 0, 1);
        CASES.answers("1 a SESSION BEGINS: the first FRAME", x -> Rows.story(x, 9), x -> new long[] {
            x.frame(0, 0), x.frame(0, 1), x.frame(0, 2), x.frame(0, 3), x.frame(0, 4), x.frame(0, 10)}, 0, 0, 0, 0, 0, NONE);
    }

    private static void storyAtItsEdges() {
        CASES.answers("6 the smallest: 11 bytes", x -> fedTo(x, 11), x -> new long[] {x.story(), x.told(0), x.peek(0)}, 1, 1, 11);
        CASES.answers("6 the largest: 1,010 bytes", x -> fedTo(x, 1010),
            x -> new long[] {x.story(), x.told(0), x.peek(999), x.peek(1000)}, 1000, 1000, 10, BAD);
        CASES.refusedReading("6 BAD: an empty TAPE", Cases.NEW, Counted::story, BAD);
        CASES.refusedReading("6 BAD: one byte", x -> fedTo(x, 1), Counted::story, BAD);
        CASES.refusedReading("6 BAD: a HEAD alone, 10 bytes", x -> fedTo(x, 10), Counted::story, BAD);
        CASES.refusedReading("6 BAD: 1,011 bytes", x -> fedTo(x, 1011), Counted::story, BAD);
        CASES.refusedReading("6 BAD: 2,000 bytes", x -> fedTo(x, 2000), Counted::story, BAD);
        CASES.refusedReading("6 BAD: a HEAD alone, the STORY before stays", x -> {
            Cases.rich(x);
            x.end(10);
        }, Counted::story, BAD);
        CASES.refusedReading("6 BAD: 1,011 bytes, the STORY before stays", x -> {
            Cases.rich(x);
            x.end(0);
            fedTo(x, 1011);
        }, Counted::story, BAD);
    }

    /** A STORY behind a STORY: what goes, and what no sentence takes away. */
    private static void storyAgain() {
        CASES.answers("6 a SESSION BEGINS again", Cases::rich,
            x -> new long[] {x.story(), x.told(0), x.told(1), x.told(2), x.frame(0, 4)}, 10, 10, 0, 1, 0);
        CASES.answers("6 no STRANGERS any more", Cases::rich,
            x -> new long[] {x.told(6), x.story(), x.told(6), x.save(false)}, 2, 10, 0, 58);
        CASES.answers("6 nothing is KEPT any more", Cases::rich,
            x -> new long[] {x.told(3), x.story(), x.told(3), x.told(4), x.undo()}, 2, 10, 0, 0, NONE);
        CASES.answers("6 THE BITS are its own", x -> Rows.story(x, Rows.filled(18, 3)),
            x -> new long[] {Rows.story(x, Rows.zeros(18)), x.peek(17)}, 18, 0);
        CASES.answers("6 a larger one behind a smaller one", x -> Rows.story(x, 9),
            x -> new long[] {Rows.story(x, 1, 2, 3), x.peek(1), x.peek(2), x.peek(3)}, 3, 2, 3, BAD);
        CASES.answers("6 a smaller one behind a larger one", x -> Rows.story(x, 1, 2, 3),
            x -> new long[] {Rows.story(x, 9), x.peek(0), x.peek(1), x.restart(), x.peek(1)}, 1, 9, BAD, 1, BAD);
        CASES.answers("6 THE BOUND stays", Cases::rich, x -> new long[] {x.story(), x.bound(5)}, 10, 900);
        CASES.answers("6 why() stays", Cases::rich, x -> new long[] {x.story(), x.why(0), x.why(1)}, 10, 1, 0);
        CASES.answers("6 THE OUT and its CHUNKS stay", Cases::rich,
            x -> new long[] {x.told(8), x.story(), x.told(8), x.chunk(4, 2)}, 120, 10, 120, 2);
        CASES.answers("6 the disk and a cut stay", Cases::rich,
            x -> new long[] {x.told(9), x.story(), x.told(9), x.write(), x.write()}, 104, 10, 104, 0, 1);
    }

    private static void lastCall() {
        CASES.answers("1 the 512th call answers as the first", x -> {
            Rows.story(x, 9);
            int v = 0;
            while (x.left() > 1) {
                x.poke(0, v & 255);
                v++;
            }
        }, x -> new long[] {x.peek(0), x.left()}, 250, 0);
    }
}
