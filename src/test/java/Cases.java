import java.util.Arrays;
import java.util.HashSet;
import java.util.List;
import java.util.Set;

/** Cases, each under a name of its own and on objects of its own; a name begins with its promise, or part of the terms. */
final class Cases {
    interface Steps {
        void on(Counted x);
    }

    interface Call {
        long on(Counted x);
    }

    interface Asked {
        long[] on(Counted x);
    }

    /** A STORY with THE BITS in it, and two bytes behind them. */
    static final int[] STORY = {
        100, 101, 102, 103, 104, 105, 106, 107, 108, 109, 110, 111, 112, 113, 114, 115, 116, 117, 118, 119};
    static final Steps NEW = x -> { };

    /** Whatever can be asked of an object; each on a new one, because some answers change it. */
    private static final List<Asked> LOOKS = List.of(
        Cases::lookAtWhatIsTold, Cases::lookAtOut, Cases::lookAtChunks, Cases::lookAtKept, Cases::lookAtTape,
        Cases::lookAtDisk, Cases::lookAtCut, Cases::lookAtBound, Cases::lookAtStrangers);

    private final Check check = new Check();
    private final Set<String> names = new HashSet<>();

    void answers(String name, Steps ready, Asked asked, long... due) {
        named(name);
        try {
            Counted x = new Counted();
            ready.on(x);
            same(name, asked.on(x), due);
        } catch (RuntimeException thrown) {
            check.holds(name + ": it threw " + thrown, false);
        }
    }

    /** The call is refused, and nothing changes: an object without the call goes on just as the one with it. */
    void refused(String name, Steps ready, Call call, long due) {
        named(name);
        changesNothing(name, ready, call, due, NEW);
        whyStays(name, ready, call);
    }

    /** As refused, but that THE TAPE is empty behind it. */
    void refusedReading(String name, Steps ready, Call call, long due) {
        named(name);
        changesNothing(name, ready, call, due, x -> x.end(0));
        whyStays(name, ready, call);
    }

    /** The file has the fault, with a SESSION of STORY, and nothing changes but THE TAPE and what why() tells. */
    void fault(String name, int code, int place, int... file) {
        fault(name, Cases::rich, code, place, file);
    }

    void fault(String name, Steps ready, int code, int place, int... file) {
        answers(code + " " + name, ready, x -> {
            Rows.onTape(x, file);
            return new long[] {x.restore(), x.why(0), x.why(1), x.told(7)};
        }, -10 - code, code, place, 0);
        Steps fed = x -> {
            ready.on(x);
            Rows.onTape(x, file);
        };
        changesNothing(code + " " + name, fed, Counted::restore, -10 - code, x -> x.end(0));
    }

    /** THE OUT of a save() behind the steps, byte by byte, on as many objects as the bytes need calls. */
    void saved(String name, Steps ready, boolean plain, int... due) {
        named(name);
        try {
            int from = 0;
            while (from < due.length) {
                Counted x = new Counted();
                ready.on(x);
                check.due(name + ": save", x.save(plain), due.length);
                long[] part = Rows.outOf(x, from, x.left() - 1);
                same(name + ": from " + from, part, Rows.longs(Arrays.copyOfRange(due, from, from + part.length)));
                from = part.length == 0 ? due.length : from + part.length;
            }
        } catch (RuntimeException thrown) {
            check.holds(name + ": it threw " + thrown, false);
        }
    }

    void finish() {
        check.finish();
    }

    private void named(String name) {
        check.holds("there is one case alone with the name: " + name, names.add(name));
    }

    private void same(String name, long[] got, long[] due) {
        check.due(name + ": how many answers", got.length, due.length);
        for (int i = 0; i < got.length && i < due.length; i++) {
            check.due(name + ": answer " + i, got[i], due[i]);
        }
    }

    private void changesNothing(String name, Steps ready, Call call, long due, Steps instead) {
        try {
            for (int i = 0; i < LOOKS.size(); i++) {
                Counted with = new Counted();
                Counted without = new Counted();
                ready.on(with);
                ready.on(without);
                check.due(name, call.on(with), due);
                instead.on(without);
                same(name + ": nothing changed, look " + i, LOOKS.get(i).on(with), LOOKS.get(i).on(without));
            }
        } catch (RuntimeException thrown) {
            check.holds(name + ": it threw " + thrown, false);
        }
    }

    private void whyStays(String name, Steps ready, Call call) {
        try {
            Counted x = new Counted();
            ready.on(x);
            long[] before = {x.why(0), x.why(1)};
            call.on(x);
            same(name + ": why() stays", new long[] {x.why(0), x.why(1)}, before);
        } catch (RuntimeException thrown) {
            check.holds(name + ": it threw " + thrown, false);
        }
    }

    /** Something of everything, so that whatever a refused call changes can be seen. */
    static void rich(Counted x) {
        Rows.story(x, STORY);
        Rows.onTape(x, Rows.file(Rows.headChunk(9), Rows.chunk(Rows.B, 6), Rows.framesChunk(),
            Rows.chunk(Rows.row(9, 9, 9, 9), 1), Rows.chunk(Rows.row(8, 8, 8, 8), 1, 2)));
        x.restore();
        x.poke(17, 118);
        x.push(5);
        x.keep();
        x.call(50, ZSaves.NONE, 5, 5);
        x.local(2, 7);
        x.push(6);
        x.keep();
        x.save(false);
        x.write();
        x.poke(1, 77);
        x.save(true);
        x.end(0);
        x.restore();
        x.bound(900);
        x.cut(7);
        x.feed(0x01020304, 0x05060708, 0x090A0B0C, 0x0D0E0F10, 0x11121314);
    }

    private static long[] lookAtWhatIsTold(Counted x) {
        long[] all = new long[11];
        for (int what = 0; what < 10; what++) {
            all[what] = x.told(what);
        }
        all[10] = x.print();
        return all;
    }

    private static long[] lookAtOut(Counted x) {
        return Rows.outOf(x, 0, 250);
    }

    private static long[] lookAtChunks(Counted x) {
        long[] all = new long[36];
        for (int i = 0; i < all.length; i++) {
            all[i] = x.chunk(i / 3, i % 3);
        }
        return all;
    }

    private static long[] lookAtKept(Counted x) {
        long[] all = new long[36];
        for (int i = 0; i < all.length; i += 4) {
            all[i] = x.undo();
            all[i + 1] = x.print();
            all[i + 2] = x.told(3);
            all[i + 3] = x.told(4);
        }
        return all;
    }

    /** THE TAPE's first 1,010 bytes, as a STORY: the HEAD comes out in a FILE, the others in the print. */
    private static long[] lookAtTape(Counted x) {
        long[] all = new long[14];
        all[10] = x.told(7);
        x.end((int) Math.min(1010, all[10]));
        all[11] = x.story();
        all[12] = x.print();
        all[13] = x.save(true);
        for (int i = 0; i < 10; i++) {
            all[i] = x.out(20 + i);
        }
        return all;
    }

    private static long[] lookAtDisk(Counted x) {
        x.end(0);
        x.load();
        return lookAtTape(x);
    }

    private static long[] lookAtCut(Counted x) {
        return new long[] {x.write(), x.told(9), x.write(), x.told(9)};
    }

    private static long[] lookAtBound(Counted x) {
        return new long[] {x.bound(20), x.told(3), x.told(4), x.bound(1000)};
    }

    private static long[] lookAtStrangers(Counted x) {
        x.save(false);
        return lookAtOut(x);
    }
}
