import java.util.Arrays;

/** Rows of bytes for the tests: stories, chunks and files, and how they come on the tape. */
final class Rows {
    static final int[] A = {73, 70, 104, 100};
    static final int[] B = {67, 77, 101, 109};
    static final int[] C = {85, 77, 101, 109};
    static final int[] D = {83, 116, 107, 115};
    static final int[] FORM = {70, 79, 82, 77};
    static final int[] IFZS = {73, 70, 90, 83};
    static final int[] HEAD = {1, 2, 3, 4, 5, 6, 7, 8, 9, 10};

    /** What the SESSION of heaviest weighs: its B, then its D. */
    static final int HEAVIEST = 1500 + 2010;

    private Rows() {
    }

    static int[] row(int... bytes) {
        return bytes;
    }

    static int[] zeros(int n) {
        return new int[n];
    }

    static int[] filled(int n, int v) {
        int[] row = new int[n];
        Arrays.fill(row, v);
        return row;
    }

    static int[] join(int[]... rows) {
        int n = 0;
        for (int[] row : rows) {
            n += row.length;
        }
        int[] all = new int[n];
        int at = 0;
        for (int[] row : rows) {
            System.arraycopy(row, 0, all, at, row.length);
            at += row.length;
        }
        return all;
    }

    static int[] number(int v) {
        return row(v >>> 24 & 255, v >>> 16 & 255, v >>> 8 & 255, v & 255);
    }

    static int[] chunk(int[] name, int... bytes) {
        return join(name, number(bytes.length), bytes, zeros(bytes.length & 1));
    }

    static int[] file(int[]... chunks) {
        int[] all = join(chunks);
        return join(FORM, number(all.length + 4), IFZS, all);
    }

    static int[] headChunk(int pc) {
        return chunk(A, join(HEAD, row(pc >>> 16 & 255, pc >>> 8 & 255, pc & 255)));
    }

    static int[] framesChunk() {
        return chunk(D, zeros(8));
    }

    static int[] with(int[] row, int at, int v) {
        int[] other = row.clone();
        other[at] = v;
        return other;
    }

    static int[] first(int[] row, int n) {
        return Arrays.copyOf(row, n);
    }

    /** A FILE of just 2,000 bytes for a STORY of one byte: THE TAPE takes it, with a WORD more no longer. */
    static int[] fileOf2000() {
        int[] frames = join(
            row(0, 0, 0, 0, 0, 0, 0, 40), filled(80, 3),
            row(0, 0, 7, 15, 9, 1, 0, 40), filled(110, 4),
            row(0, 0, 8, 0, 9, 1, 0, 36), filled(72, 5));
        int[] stranger = chunk(row(1, 2, 3, 4), filled(200, 6));
        int[] strangers = join(stranger, stranger, stranger, stranger, stranger, stranger, stranger, stranger);
        return file(headChunk(7), chunk(B), chunk(D, frames), strangers);
    }

    /** A thousand bytes, every second of them other than 0. */
    static int[] everySecond(int v) {
        int[] row = zeros(1000);
        for (int i = 1; i < 1000; i += 2) {
            row[i] = v;
        }
        return row;
    }

    private static int[] fullFrames(int n) {
        int[] all = {};
        for (int i = 0; i < n; i++) {
            all = join(all, row(0, 0, 0, 15, 7, 127, 0, 40), zeros(30), filled(80, 255));
        }
        return all;
    }

    private static int[] firstFullFrame() {
        return join(row(0, 0, 0, 0, 0, 0, 0, 40), filled(80, 255));
    }

    /** The D of the SESSION of heaviest. */
    static int[] heaviestFrames() {
        int[] last = join(row(0, 0, 0, 15, 7, 127, 0, 0), zeros(30));
        return join(firstFullFrame(), fullFrames(15), last, last, last, last);
    }

    /** As heavy a SESSION as 512 calls can make and still ask some twenty times: the longest B, and twenty FRAMES. */
    static void heaviest(Counted x) {
        story(x, zeros(1000));
        // THE BITS stay 0 when it is restored: in 252 they are 0 already.
        restored(x, headChunk(0), chunk(C, everySecond(252)), chunk(D, join(firstFullFrame(), fullFrames(7))));
        for (int i = 8; i < 20; i++) {
            x.call(0, 7, 7, 15);
            for (int k = 0; k < 40 && i < 16; k++) {
                x.push(65535);
            }
        }
    }

    static void onTape(Counted x, int... bytes) {
        x.end(0);
        for (int at = 0; at < bytes.length; at += 20) {
            int[] part = Arrays.copyOfRange(bytes, at, at + 20);
            x.feed(at(part, 0), at(part, 4), at(part, 8), at(part, 12), at(part, 16));
        }
        x.end(bytes.length);
    }

    private static int at(int[] row, int i) {
        return row[i] << 24 | row[i + 1] << 16 | row[i + 2] << 8 | row[i + 3];
    }

    static int story(Counted x, int... bytes) {
        onTape(x, join(HEAD, bytes));
        return x.story();
    }

    static int restored(Counted x, int[]... chunks) {
        onTape(x, file(chunks));
        return x.restore();
    }

    /** The bytes of THE TAPE, 11 to 1,010 of them, which become a STORY. */
    static long[] tapeOf(Counted x) {
        long[] all = new long[x.told(7)];
        x.story();
        x.save(true);
        for (int i = 0; i < all.length; i++) {
            all[i] = i < 10 ? x.out(20 + i) : x.peek(i - 10);
        }
        return all;
    }

    /** THE OUT's bytes from one on, so many at most. */
    static long[] outOf(Counted x, int from, int most) {
        long[] all = new long[Math.max(0, Math.min(x.told(8) - from, most))];
        for (int i = 0; i < all.length; i++) {
            all[i] = x.out(from + i);
        }
        return all;
    }

    static long[] longs(int... row) {
        return Arrays.stream(row).asLongStream().toArray();
    }
}
