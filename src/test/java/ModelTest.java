import java.util.ArrayList;
import java.util.Collections;
import java.util.List;
import java.util.Random;

/** Runs of calls, the same each time, on ZSaves and on the model beside it: every answer is held against the model's. */
public final class ModelTest {
    private static final int RUNS = 12000;
    /** Calls that each run leaves for its last look around. */
    private static final int LAST_LOOK = 80;
    private static final int[] SIZES = {1, 2, 16, 17, 18, 19, 40, 255, 256, 257, 300, 513, 999, 1000};
    private static final int[] EDGES = {
        Integer.MIN_VALUE, -11, -5, -4, -3, -2, -1, 0, 1, 2, 3, 4, 5, 7, 8, 9, 10, 11, 15, 16, 17, 18, 19, 20, 24, 25, 39,
        40, 41, 65, 127, 128, 255, 256, 999, 1000, 1001, 2000, 2001, 10000, 10001, 65535, 65536, 16777215, 16777216,
        Integer.MAX_VALUE};

    private final Check check;
    private final Random random;
    private final int run;
    private final Counted x = new Counted();
    private final Model m = new Model();
    private final int[] faults;

    private ModelTest(Check check, int run, int[] faults) {
        this.check = check;
        this.run = run;
        this.random = new Random(run);
        this.faults = faults;
    }

    public static void main(String[] args) {
        Check check = new Check();
        int[] faults = new int[11];
        for (int run = 0; run < RUNS && check.wrong() < 10; run++) {
            new ModelTest(check, run, faults).go();
        }
        for (int code = 0; code < faults.length; code++) {
            check.holds("the runs meet fault " + code + " at least 20 times: " + faults[code], faults[code] >= 20);
        }
        check.finish();
    }

    private void go() {
        if (random.nextInt(20) != 0) {
            newStory();
        }
        while (room(60) && check.wrong() == 0) {
            step();
            if (chance(10)) {
                lookAround();
            }
        }
        lookAround();
        lookAtOut(x.left());
    }

    private boolean room(int calls) {
        return x.left() >= calls + LAST_LOOK;
    }

    private void same(String call, long got, long want) {
        check.due("run " + run + ": " + call, got, want);
    }

    private boolean chance(int percent) {
        return random.nextInt(100) < percent;
    }

    private int odd() {
        return EDGES[random.nextInt(EDGES.length)];
    }

    /** Mostly a number below the limit, now and then one from anywhere. */
    private int some(int limit) {
        return chance(8) ? odd() : random.nextInt(Math.max(1, limit));
    }

    private void step() {
        int kind = random.nextInt(100);
        if (kind < 40) {
            sessionStep(random.nextInt(8));
        } else if (kind < 60) {
            fileStep(random.nextInt(8));
        } else if (kind < 80) {
            keepStep(random.nextInt(8));
        } else if (kind < 96) {
            fedFile();
        } else if (kind < 98) {
            tapeStep();
        } else {
            newStory();
        }
    }

    private void sessionStep(int kind) {
        int a = some(m.told(0));
        int b = some(256);
        int w = some(65536);
        switch (kind) {
            case 0: same("poke", x.poke(a, b), m.poke(a, b)); break;
            case 1: manyPokes(); break;
            case 2: same("jump", x.jump(w * 200), m.jump(w * 200)); break;
            case 3: manyCalls(); break;
            case 4: same("leave", x.leave(), m.leave()); break;
            case 5: int l = some(16); same("local", x.local(l, w), m.local(l, w)); break;
            case 6: manyPushes(); break;
            default: same("pop", x.pop(), m.pop()); break;
        }
    }

    private void manyPokes() {
        int size = m.told(0);
        int step = 1 + random.nextInt(5);
        int from = random.nextInt(Math.max(1, size));
        for (int at = from; at < size && at < from + 40 * step; at += step) {
            int v = random.nextInt(256);
            same("poke", x.poke(at, v), m.poke(at, v));
        }
    }

    private void manyCalls() {
        for (int i = random.nextInt(chance(10) ? 25 : 4); i >= 0; i--) {
            int to = chance(5) ? odd() : random.nextInt(16777216);
            int result = chance(30) ? -2 : some(256);
            int arguments = some(8);
            int locals = some(16);
            same("call", x.call(to, result, arguments, locals), m.call(to, result, arguments, locals));
        }
    }

    private void manyPushes() {
        for (int i = random.nextInt(chance(20) ? 45 : 4); i >= 0; i--) {
            int w = some(65536);
            same("push", x.push(w), m.push(w));
        }
    }

    private void fileStep(int kind) {
        boolean plain = random.nextBoolean();
        int n = chance(30) ? odd() : random.nextInt(200);
        switch (kind) {
            case 0:
            case 1: same("save", x.save(plain), m.save(plain)); break;
            case 2: same("back", x.back(), m.back()); break;
            case 3: same("write", x.write(), m.write()); break;
            case 4: same("cut", x.cut(n), m.cut(n)); break;
            case 5: same("load", x.load(), m.load()); break;
            default:
                same("save", x.save(plain), m.save(plain));
                same("back", x.back(), m.back());
                if (chance(30)) {
                    sessionStep(1);
                }
                if (chance(10)) {
                    n = some(m.told(7));
                    same("end", x.end(n), m.end(n));
                }
                readBack();
        }
    }

    private void keepStep(int kind) {
        int n = chance(30) ? odd() : random.nextInt(3000);
        switch (kind) {
            case 0: same("bound", x.bound(n), m.bound(n)); break;
            case 1:
            case 2: same("undo", x.undo(), m.undo()); break;
            case 3:
                if (chance(50)) {
                    same("restart", x.restart(), m.restart());
                }
                break;
            default: same("keep", x.keep(), m.keep()); break;
        }
    }

    private void tapeStep() {
        for (int i = random.nextInt(110); i >= 0 && room(60); i--) {
            int[] v = {random.nextInt(), random.nextInt(), random.nextInt(), random.nextInt(), random.nextInt()};
            same("feed", x.feed(v[0], v[1], v[2], v[3], v[4]), m.feed(v));
        }
        int n = some(2000);
        same("end", x.end(n), m.end(n));
        if (chance(30)) {
            readBack();
        }
    }

    private void newStory() {
        int size = chance(5) ? odd() & 1023 : SIZES[random.nextInt(SIZES.length)];
        int[] bytes = new int[10 + size];
        for (int i = 0; i < bytes.length; i++) {
            bytes[i] = chance(70) ? random.nextInt(256) : 0;
        }
        if (tapeOf(bytes)) {
            same("story", x.story(), m.story());
        }
    }

    /** Whether there are calls enough for them, and for what is asked behind. */
    private boolean tapeOf(int[] bytes) {
        if (!room(bytes.length / 20 + 60)) {
            return false;
        }
        same("end", x.end(0), m.end(0));
        for (int at = 0; at < bytes.length; at += 20) {
            int[] v = new int[5];
            for (int i = 0; i < 20; i++) {
                v[i / 4] = v[i / 4] << 8 | (at + i < bytes.length ? bytes[at + i] : 0);
            }
            same("feed", x.feed(v[0], v[1], v[2], v[3], v[4]), m.feed(v));
        }
        same("end", x.end(bytes.length), m.end(bytes.length));
        return true;
    }

    private void readBack() {
        same("restore", x.restore(), m.restore());
        same("why 0", x.why(0), m.why(0));
        same("why 1", x.why(1), m.why(1));
        if (m.story != null) {
            faults[m.why(0)]++;
        }
    }

    private void fedFile() {
        int[] file = m.story == null ? Rows.file(Rows.headChunk(0), Rows.framesChunk()) : madeFile();
        if (tapeOf(file)) {
            readBack();
            lookAround();
        }
    }

    private int[] madeFile() {
        List<int[]> chunks = new ArrayList<>();
        chunks.add(madeHead());
        chunks.add(random.nextBoolean() ? madeRuns() : madePlain());
        chunks.add(madeFrames());
        if (chance(30)) {
            for (int i = random.nextInt(10); i > 0; i--) {
                int size = chance(5) ? 190 + random.nextInt(13) : random.nextInt(40);
                chunks.add(random.nextInt(chunks.size() + 1), madeStranger(size));
            }
        }
        if (chance(10)) {
            int[] name = List.of(Rows.A, Rows.B, Rows.C, Rows.D).get(random.nextInt(4));
            chunks.add(random.nextInt(chunks.size() + 1), Rows.chunk(name, bytes(random.nextInt(20))));
        }
        if (chance(8)) {
            Collections.shuffle(chunks, random);
        }
        if (chance(6)) {
            chunks.remove(random.nextInt(chunks.size()));
        }
        return spoiled(Rows.file(chunks.toArray(new int[0][])));
    }

    private int[] spoiled(int[] file) {
        int[] row = file;
        if (chance(8)) {
            row = Rows.with(row, random.nextInt(row.length), random.nextInt(256));
        }
        if (chance(4)) {
            row = Rows.with(row, random.nextInt(12), random.nextInt(256));
        }
        if (chance(6)) {
            row = Rows.first(row, random.nextInt(row.length));
            if (chance(80) && row.length >= 8) {
                System.arraycopy(Rows.number(row.length - 8), 0, row, 4, 4);
            }
        }
        return row;
    }

    private int[] bytes(int n) {
        int[] row = new int[n];
        for (int i = 0; i < n; i++) {
            row[i] = random.nextInt(256);
        }
        return row;
    }

    /** An odd one gets a byte behind it that is now and then not 0. */
    private int[] chunkOf(int[] name, int... bytes) {
        int[] chunk = Rows.chunk(name, bytes);
        return bytes.length % 2 == 1 && chance(3) ? Rows.with(chunk, chunk.length - 1, 1 + random.nextInt(255)) : chunk;
    }

    private int[] madeStranger(int size) {
        return chunkOf(bytes(4), bytes(size));
    }

    private int[] madeHead() {
        int[] row = bytes(13);
        for (int i = 0; i < 10; i++) {
            row[i] = m.head.get(i);
        }
        if (chance(4)) {
            row[random.nextInt(13)] ^= 1;
        }
        return chunkOf(Rows.A, chance(2) ? Rows.first(row, random.nextInt(16)) : row);
    }

    private int[] madePlain() {
        int size = m.told(0) + (chance(6) ? random.nextInt(3) - 1 : 0);
        return chunkOf(Rows.C, bytes(size));
    }

    private int[] madeRuns() {
        List<Integer> row = new ArrayList<>();
        int left = m.told(0);
        for (int i = random.nextInt(60); i > 0 && left > 0; i--) {
            int n = 1 + random.nextInt(Math.min(left, 256));
            if (chance(50)) {
                row.add(1 + random.nextInt(255));
                left--;
            } else if (chance(40)) {
                row.add(0);
                row.add(n - 1);
                left -= n;
            }
        }
        if (chance(20)) {
            while (left > 0) {
                int n = Math.min(left, 256);
                row.add(0);
                row.add(n - 1);
                left -= n;
            }
        }
        if (chance(8)) {
            row.add(0);
        }
        if (chance(5)) {
            row.add(random.nextInt(256));
        }
        return chunkOf(Rows.B, row.stream().mapToInt(Integer::intValue).toArray());
    }

    private int[] madeFrames() {
        List<Integer> row = new ArrayList<>();
        int count = chance(5) ? 18 + random.nextInt(4) : 1 + random.nextInt(4);
        for (int i = 0; i < count; i++) {
            addFrame(row, i == 0);
        }
        int[] all = row.stream().mapToInt(Integer::intValue).toArray();
        return chunkOf(Rows.D, chance(6) ? Rows.first(all, random.nextInt(all.length)) : all);
    }

    private void addFrame(List<Integer> row, boolean first) {
        boolean thrown = !first && chance(30);
        int locals = first ? 0 : random.nextInt(chance(30) ? 16 : 3);
        int depth = chance(5) ? 38 + random.nextInt(4) : random.nextInt(4);
        int[] label = {
            first ? 0 : random.nextInt(256), first ? 0 : random.nextInt(256), first ? 0 : random.nextInt(256),
            locals + (thrown ? 16 : 0), first || thrown ? 0 : random.nextInt(256), first ? 0 : (1 << random.nextInt(8)) - 1,
            0, depth};
        if (chance(3)) {
            label[random.nextInt(8)] = random.nextInt(256);
        }
        for (int b : label) {
            row.add(b);
        }
        for (int i = 0; i < 2 * (locals + depth); i++) {
            row.add(random.nextInt(256));
        }
    }

    private void lookAround() {
        for (int what = -1; what <= 10; what++) {
            same("told " + what, x.told(what), m.told(what));
        }
        same("print", x.print(), m.print());
        for (int i = 0; i < 4; i++) {
            int chunk = random.nextInt(13) - 1;
            int what = random.nextInt(5) - 1;
            same("chunk " + chunk + " " + what, x.chunk(chunk, what), m.chunk(chunk, what));
        }
        for (int i = 0; i < 6; i++) {
            int frame = random.nextInt(m.told(2) + 2) - 1;
            int what = chance(50) ? random.nextInt(17) - 1 : some(70);
            same("frame " + frame + " " + what, x.frame(frame, what), m.frame(frame, what));
        }
        int at = some(m.told(0) + 1);
        same("peek " + at, x.peek(at), m.peek(at));
        same("peek 17", x.peek(17), m.peek(17));
        int what = random.nextInt(4) - 1;
        same("why " + what, x.why(what), m.why(what));
        lookAtOut(10);
    }

    private void lookAtOut(int times) {
        for (int i = 0; i < times; i++) {
            int at = random.nextInt(m.told(8) + 2) - 1;
            same("out " + at, x.out(at), m.out(at));
        }
    }
}
