/** Promises 21 to 23: the disk. */
public final class DiskTest {
    private static final int BAD = ZSaves.BAD, NONE = ZSaves.NONE, FULL = ZSaves.FULL;
    private static final int LOWEST = Integer.MIN_VALUE, HIGHEST = Integer.MAX_VALUE;
    private static final Cases CASES = new Cases();

    public static void main(String[] args) {
        write();
        writeAtItsEdges();
        cut();
        cutAtItsEdges();
        cutForgotten();
        cutRefused();
        load();
        loadRefused();
        CASES.finish();
    }

    /** THE OUT has 60 bytes. */
    private static void saved(Counted x) {
        Rows.story(x, 9, 8);
        x.save(true);
    }

    /** 60 bytes on the disk, 62 in THE OUT. */
    private static void written(Counted x) {
        saved(x);
        x.write();
        x.push(1);
        x.save(true);
    }

    private static void write() {
        CASES.answers("21 THE OUT becomes THE FILE", DiskTest::saved,
            x -> new long[] {x.told(9), x.write(), x.told(9), x.told(8)}, NONE, 1, 60, 60);
        CASES.answers("21 a save() alone writes nothing", DiskTest::saved,
            x -> new long[] {x.write(), x.push(1), x.save(true), x.told(9)}, 1, 1, 62, 60);
        CASES.answers("21 a larger one in place of the one before", DiskTest::written,
            x -> new long[] {x.told(9), x.write(), x.told(9)}, 60, 1, 62);
        CASES.answers("21 a smaller one in place of the one before", DiskTest::written,
            x -> new long[] {x.write(), x.pop(), x.save(true), x.write(), x.told(9), x.load()}, 1, 1, 60, 1, 60, 60);
        CASES.answers("21 THE TAPE stays", x -> {
            saved(x);
            x.feed(1, 2, 3, 4, 5);
        }, x -> new long[] {x.write(), x.told(7)}, 1, 20);
    }

    private static void writeAtItsEdges() {
        CASES.answers("21 an empty OUT is a FILE of no bytes", Cases.NEW,
            x -> new long[] {x.write(), x.told(9), x.load()}, 1, 0, 0);
        CASES.answers("21 more bytes than THE TAPE takes", DiskTest::of2002,
            x -> new long[] {x.told(8), x.write(), x.told(9)}, 2002, 1, 2002);
        CASES.answers("21 the same once more", DiskTest::saved, x -> new long[] {x.write(), x.write(), x.told(9)}, 1, 1, 60);
    }

    private static void of2000(Counted x) {
        Rows.story(x, 9);
        Rows.onTape(x, Rows.fileOf2000());
        x.restore();
        x.save(false);
    }

    private static void of2002(Counted x) {
        of2000(x);
        x.push(1);
        x.save(false);
    }

    private static void cut() {
        CASES.answers("22 the next write() is cut, the one before stays", DiskTest::written,
            x -> new long[] {x.cut(30), x.write(), x.told(9), x.load()}, 1, 0, 60, 60);
        CASES.answers("22 the one before can still be read", DiskTest::written,
            x -> new long[] {x.cut(30), x.write(), x.load(), x.restore(), x.frame(0, 4)}, 1, 0, 60, 1, 0);
        CASES.answers("22 without one before there is none", DiskTest::saved,
            x -> new long[] {x.cut(30), x.write(), x.told(9), x.load()}, 1, 0, NONE, NONE);
        CASES.answers("22 THE OUT stays when it is cut", DiskTest::saved,
            x -> new long[] {x.cut(30), x.write(), x.told(8), x.out(59), x.out(60)}, 1, 0, 60, 0, BAD);
    }

    private static void cutAtItsEdges() {
        CASES.answers("22 n 0", DiskTest::written, x -> new long[] {x.cut(0), x.write(), x.told(9)}, 1, 0, 60);
        CASES.answers("22 n one below what it has", DiskTest::written, x -> new long[] {x.cut(61), x.write(), x.told(9)}, 1, 0, 60);
        CASES.answers("22 n as many as it has", DiskTest::written, x -> new long[] {x.cut(62), x.write(), x.told(9)}, 1, 1, 62);
        CASES.answers("22 n one above what it has", DiskTest::written, x -> new long[] {x.cut(63), x.write(), x.told(9)}, 1, 1, 62);
        CASES.answers("22 n the highest number", DiskTest::written,
            x -> new long[] {x.cut(HIGHEST), x.write(), x.told(9)}, 1, 1, 62);
        CASES.answers("22 n 0, and an empty OUT", Cases.NEW, x -> new long[] {x.cut(0), x.write(), x.told(9)}, 1, 1, 0);
        CASES.answers("22 NONE: it is not cut", DiskTest::written,
            x -> new long[] {x.cut(0), x.cut(NONE), x.write(), x.told(9)}, 1, 1, 1, 62);
        CASES.answers("22 NONE without a cut", DiskTest::written, x -> new long[] {x.cut(NONE), x.write(), x.told(9)}, 1, 1, 62);
        CASES.answers("22 the latest n counts, a larger one", DiskTest::written,
            x -> new long[] {x.cut(0), x.cut(62), x.write()}, 1, 1, 1);
        CASES.answers("22 the latest n counts, a smaller one", DiskTest::written,
            x -> new long[] {x.cut(62), x.cut(0), x.write()}, 1, 1, 0);
        CASES.answers("22 a cut without a STORY waits", x -> x.cut(5), x -> {
            saved(x);
            return new long[] {x.write(), x.write()};
        }, 0, 1);
    }

    private static void cutForgotten() {
        CASES.answers("22 forgotten by a write() that is cut", DiskTest::written,
            x -> new long[] {x.cut(0), x.write(), x.write(), x.told(9)}, 1, 0, 1, 62);
        CASES.answers("22 forgotten by a write() that is not cut", DiskTest::written,
            x -> new long[] {x.cut(62), x.write(), x.push(2), x.save(true), x.write(), x.told(9)}, 1, 1, 2, 64, 1, 64);
        CASES.answers("22 forgotten by a write() of nothing", x -> x.cut(0), x -> {
            x.write();
            saved(x);
            return new long[] {x.write(), x.told(9)};
        }, 1, 60);
        CASES.answers("22 not forgotten by save(), back(), load() and restore()", DiskTest::written, x -> {
            x.cut(5);
            x.back();
            x.restore();
            x.load();
            x.restore();
            x.save(false);
            return new long[] {x.write(), x.write()};
        }, 0, 1);
    }

    private static void cutRefused() {
        CASES.refused("22 BAD: -1", Cases::rich, x -> x.cut(-1), BAD);
        CASES.refused("22 BAD: -3", Cases::rich, x -> x.cut(-3), BAD);
        CASES.refused("22 BAD: the lowest number", Cases::rich, x -> x.cut(LOWEST), BAD);
        CASES.refused("22 BAD: -1, with no cut before", DiskTest::written, x -> x.cut(-1), BAD);
    }

    private static void load() {
        CASES.answers("23 THE FILE becomes THE TAPE and stays", DiskTest::written,
            x -> new long[] {x.load(), x.told(7), x.told(9), x.load()}, 60, 60, 60, 60);
        CASES.answers("23 it is THE TAPE, not behind it", DiskTest::written, x -> {
            x.feed(1, 2, 3, 4, 5);
            x.load();
            return Rows.tapeOf(x);
        }, Rows.longs(Rows.file(Rows.headChunk(0), Rows.chunk(Rows.C, 9, 8), Rows.framesChunk())));
        CASES.answers("23 what becomes of THE TAPE does not become of THE FILE", DiskTest::written, x -> {
            x.load();
            x.end(20);
            x.feed(1, 2, 3, 4, 5);
            x.load();
            return Rows.tapeOf(x);
        }, Rows.longs(Rows.file(Rows.headChunk(0), Rows.chunk(Rows.C, 9, 8), Rows.framesChunk())));
        CASES.answers("23 THE OUT stays", DiskTest::written, x -> new long[] {x.load(), x.told(8)}, 60, 62);
        CASES.answers("23 a FILE of no bytes empties THE TAPE", x -> {
            x.write();
            x.feed(1, 2, 3, 4, 5);
        }, x -> new long[] {x.load(), x.told(7)}, 0, 0);
        CASES.answers("23 just 2,000 bytes", DiskTest::of2000,
            x -> new long[] {x.write(), x.load(), x.told(7), x.restore()}, 1, 2000, 2000, 1);
    }

    private static void loadRefused() {
        CASES.refused("23 NONE: none was written", x -> {
            saved(x);
            x.feed(1, 2, 3, 4, 5);
        }, Counted::load, NONE);
        CASES.refused("23 NONE: the only one was cut", x -> {
            saved(x);
            x.cut(59);
            x.write();
            x.feed(1, 2, 3, 4, 5);
        }, Counted::load, NONE);
        CASES.refused("23 FULL: 2,002 bytes", x -> {
            of2002(x);
            x.write();
            x.feed(1, 2, 3, 4, 5);
        }, Counted::load, FULL);
    }
}
