import java.util.Arrays;

/** Rows of bytes for the tests: stories, chunks and files, and how they come on the tape. */
final class Rows {
    static final int[] A = {73, 70, 104, 100};
    static final int[] B = {67, 77, 101, 109};
    static final int[] C = {85, 77, 101, 109};
    static final int[] D = {83, 116, 107, 115};
    static final int[] FORM = {70, 79, 82, 77};
    static final int[] IFZS = {73, 70, 90, 83};
    static final int[] HEAD = {1, 2, 3, 4, 5, 6, 7, 8, 9, 10};

    private Rows() {
    }

    static int[] row(int... bytes) {
        return bytes;
    }

    static int[] zeros(int n) {
        return new int[n];
    }

    static int[] filled(int n, int v) {
        int[] row = new int[n];
        Arrays.fill(row, v);
        return row;
    }

    static int[] join(int[]... rows) {
        int n = 0;
        for (int[] row : rows) {
            n += row.length;
        }
        int[] all = new int[n];
        int at = 0;
        for (int[] row : rows) {
            System.arraycopy(row, 0, all, at, row.length);
            at += row.length;
        }
        return all;
    }

    static int[] number(int v) {
        return row(v >>> 24 & 255, v >>> 16 & 255, v >>> 8 & 255, v & 255);
    }

    static int[] chunk(int[] name, int... bytes) {
        return join(name, number(bytes.length), bytes, zeros(bytes.length & 1));
    }

    static int[] file(int[]... chunks) {
        int[] all = join(chunks);
        return join(FORM, number(all.length + 4), IFZS, all);
    }

    static int[] headChunk(int pc) {
        return chunk(A, join(HEAD, row(pc >>> 16 & 255, pc >>> 8 & 255, pc & 255)));
    }

    static int[] framesChunk() {
        return chunk(D, zeros(8));
    }

    static int[] with(int[] row, int at, int v) {
        int[] other = row.clone();
        other[at] = v;
        return other;
    }

    static int[] first(int[] row, int n) {
        return Arrays.copyOf(row, n);
    }

    /** The tape must be empty ahead of this. */
    static void onTape(ZSaves x, int... bytes) {
        for (int at = 0; at < bytes.length; at += 20) {
            int[] part = Arrays.copyOfRange(bytes, at, at + 20);
            x.feed(at(part, 0), at(part, 4), at(part, 8), at(part, 12), at(part, 16));
        }
        x.end(bytes.length);
    }

    private static int at(int[] row, int i) {
        return row[i] << 24 | row[i + 1] << 16 | row[i + 2] << 8 | row[i + 3];
    }

    static ZSaves withStory(int... bytes) {
        ZSaves x = new ZSaves();
        onTape(x, join(HEAD, bytes));
        x.story();
        return x;
    }

    static int[] outOf(ZSaves x) {
        int[] all = new int[x.told(8)];
        for (int i = 0; i < all.length; i++) {
            all[i] = x.out(i);
        }
        return all;
    }
}
