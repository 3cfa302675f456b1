/** Promises 18 and 19: each fault at its place, and nothing changed. */
public final class FaultsTest {
    private static final Check CHECK = new Check();
    private static final int[] NAME = {1, 2, 3, 4};
    private static final int[] HEAD_CHUNK = Rows.headChunk(77);
    private static final int[] PLAIN = Rows.chunk(Rows.C, 8, 9, 10);
    private static final int[] FRAMES = Rows.framesChunk();
    /** Where the third chunk begins: behind the front, the head and PLAIN. */
    private static final int THIRD = 12 + 22 + 12;

    public static void main(String[] args) {
        front();
        frontInOrder();
        lacking();
        pad();
        ahead();
        head();
        runs();
        plain();
        firstFrame();
        laterFrames();
        tooManyFrames();
        stackAboveForty();
        frameInOrder();
        strangers();
        missing();
        chunkByChunk();
        whyStays();
        CHECK.finish();
    }

    private static ZSaves begun() {
        ZSaves x = Rows.withStory(1, 2, 3);
        Rows.onTape(x, Rows.file(Rows.headChunk(9), Rows.chunk(Rows.B, 6), FRAMES, Rows.chunk(NAME, 1)));
        x.restore();
        x.call(5, 5, 5, 5);
        x.push(5);
        x.keep();
        x.save(false);
        x.write();
        return x;
    }

    private static void due(String what, int code, int place, int... file) {
        ZSaves x = begun();
        long print = x.print();
        int[] told = new int[10];
        for (int i = 0; i < 10; i++) {
            told[i] = x.told(i);
        }
        Rows.onTape(x, file);
        String call = code + ": " + what;
        CHECK.due(call + ", restore", x.restore(), -10 - code);
        CHECK.due(call + ", why(0)", x.why(0), code);
        CHECK.due(call + ", why(1)", x.why(1), place);
        CHECK.due(call + ", print", x.print(), print);
        for (int i = 0; i < 10; i++) {
            CHECK.due(call + ", told(" + i + ")", x.told(i), told[i]);
        }
        CHECK.due(call + ", the stranger stays", x.save(false), told[8]);
    }

    private static int[] withFrames(int... frames) {
        return Rows.file(HEAD_CHUNK, PLAIN, Rows.chunk(Rows.D, frames));
    }

    private static int[] withRuns(int... runs) {
        return Rows.file(HEAD_CHUNK, Rows.chunk(Rows.B, runs), FRAMES);
    }

    private static int[] lengthMended(int[] file) {
        int[] row = file.clone();
        System.arraycopy(Rows.number(file.length - 8), 0, row, 4, 4);
        return row;
    }

    private static void front() {
        int[] file = Rows.file(HEAD_CHUNK, PLAIN, FRAMES);
        due("an empty tape", 1, 0);
        due("eleven bytes", 1, 11, Rows.first(file, 11));
        due("no FORM", 2, 0, Rows.with(file, 3, 0));
        due("no IFZS", 2, 8, Rows.with(file, 11, 0));
        due("one more than stand behind", 3, 4, Rows.with(file, 7, file[7] + 1));
        due("one less", 3, 4, Rows.with(file, 7, file[7] - 1));
        due("far more", 3, 4, Rows.with(file, 4, 255));
        due("a byte behind the file", 3, 4, Rows.join(file, Rows.zeros(1)));
        due("twelve bytes and no chunk", 10, 12, Rows.file());
    }

    private static void frontInOrder() {
        due("1 ahead of 2", 1, 11, Rows.zeros(11));
        due("2 at 0 ahead of 3", 2, 0, Rows.zeros(12));
        due("3 ahead of 2 at 8", 3, 4, Rows.join(Rows.FORM, Rows.zeros(8)));
        due("2 at 8", 2, 8, Rows.join(Rows.FORM, Rows.number(5), Rows.zeros(5)));
    }

    private static void lacking() {
        int[] file = Rows.file(HEAD_CHUNK, PLAIN, FRAMES);
        int[] before = Rows.file(HEAD_CHUNK, PLAIN);
        due("a byte of a label", 1, before.length + 1, lengthMended(Rows.join(before, Rows.zeros(1))));
        due("seven bytes of a label", 1, before.length + 7, lengthMended(Rows.first(file, before.length + 7)));
        due("a label alone", 1, before.length + 8, lengthMended(Rows.first(file, before.length + 8)));
        due("a byte too few", 1, file.length - 1, lengthMended(Rows.first(file, file.length - 1)));
        due("the one more", 1, 12 + 21, lengthMended(Rows.first(file, 12 + 21)));
        due("a number of four bytes", 1, file.length, Rows.with(file, THIRD + 4, 255));
        due("the highest bit", 1, file.length, Rows.with(file, THIRD + 4, 128));
        due("the largest int", 1, 12 + 22 + 16,
            Rows.file(HEAD_CHUNK, Rows.join(Rows.C, Rows.row(127, 255, 255, 255), Rows.zeros(8))));
    }

    private static void pad() {
        int[] file = Rows.file(HEAD_CHUNK, PLAIN, FRAMES, Rows.chunk(NAME, 5));
        due("of the head", 4, 12 + 21, Rows.with(file, 12 + 21, 1));
        due("of memory", 4, THIRD - 1, Rows.with(file, THIRD - 1, 255));
        due("of a stranger", 4, file.length - 1, Rows.with(file, file.length - 1, 1));
        int[] wrongHead = Rows.with(Rows.with(file, 20, 99), 12 + 21, 1);
        due("ahead of what is in it", 4, 12 + 21, wrongHead);
        int[] large = Rows.chunk(NAME, Rows.zeros(201));
        due("of one that is too large", 4, 12 + 209, Rows.file(Rows.with(large, 209, 1)));
    }

    private static void ahead() {
        due("C ahead of A", 5, 12, Rows.file(PLAIN, HEAD_CHUNK, FRAMES));
        due("B ahead of A", 5, 12, Rows.file(Rows.chunk(Rows.B), HEAD_CHUNK, FRAMES));
        due("behind D", 5, 28, Rows.file(FRAMES, PLAIN, HEAD_CHUNK));
        due("ahead of what is in it", 5, 12, Rows.file(Rows.chunk(Rows.B, 0), HEAD_CHUNK, FRAMES));
    }

    private static void head() {
        due("twelve bytes", 6, 16, Rows.file(Rows.chunk(Rows.A, Rows.zeros(12)), PLAIN, FRAMES));
        due("fourteen bytes", 6, 16, Rows.file(Rows.chunk(Rows.A, Rows.join(Rows.HEAD, Rows.zeros(4))), PLAIN, FRAMES));
        due("no bytes", 6, 16, Rows.file(Rows.chunk(Rows.A), PLAIN, FRAMES));
        due("behind a stranger", 6, 26, Rows.file(Rows.chunk(NAME, 1), Rows.chunk(Rows.A), PLAIN, FRAMES));
        int[] file = Rows.file(HEAD_CHUNK, PLAIN, FRAMES);
        due("the first byte", 6, 20, Rows.with(file, 20, 0));
        due("the last byte", 6, 29, Rows.with(file, 29, 0));
        due("the first that differs", 6, 23, Rows.with(Rows.with(file, 23, 0), 27, 0));
    }

    private static void runs() {
        int start = 12 + 22 + 8;
        due("a byte beyond", 7, start + 3, withRuns(1, 1, 1, 1));
        due("a run beyond", 7, start, withRuns(0, 3));
        due("a run beyond behind a byte", 7, start + 1, withRuns(9, 0, 2));
        due("a run behind all", 7, start + 2, withRuns(0, 2, 0, 0));
        due("a byte behind all", 7, start + 2, withRuns(0, 2, 5, 1));
        due("the longest run", 7, start, withRuns(0, 255));
        due("a last 0", 7, start + 1, withRuns(0));
        due("a last 0 behind bytes", 7, start + 3, withRuns(1, 2, 0));
        due("a last 0 behind all", 7, start + 4, withRuns(1, 2, 3, 0));
    }

    private static void plain() {
        due("too few", 7, 12 + 22 + 4, Rows.file(HEAD_CHUNK, Rows.chunk(Rows.C, 1, 2), FRAMES));
        due("too many", 7, 12 + 22 + 4, Rows.file(HEAD_CHUNK, Rows.chunk(Rows.C, 1, 2, 3, 4), FRAMES));
        due("none", 7, 12 + 22 + 4, Rows.file(HEAD_CHUNK, Rows.chunk(Rows.C), FRAMES));
    }

    private static void firstFrame() {
        int start = THIRD + 8;
        due("no bytes", 8, start, withFrames());
        due("seven bytes", 8, start + 7, withFrames(0, 0, 0, 0, 0, 0, 0));
        for (int i = 0; i < 6; i++) {
            due("byte " + i, 8, start + i, withFrames(Rows.with(Rows.zeros(8), i, 1)));
        }
        due("the first of two", 8, start + 1, withFrames(0, 1, 0, 1, 0, 0, 0, 0));
        due("a word lacks", 8, start + 10, withFrames(0, 0, 0, 0, 0, 0, 0, 2, 1, 1));
        due("half a word lacks", 8, start + 9, withFrames(0, 0, 0, 0, 0, 0, 0, 1, 1));
    }

    private static int[] second(int... frame) {
        return withFrames(Rows.join(Rows.zeros(8), frame));
    }

    private static void laterFrames() {
        int start = THIRD + 16;
        due("one byte", 8, start + 1, second(0));
        due("seven bytes", 8, start + 7, second(0, 0, 0, 0, 0, 0, 0));
        due("32", 8, start + 3, second(0, 0, 0, 32, 0, 0, 0, 0));
        due("255", 8, start + 3, second(0, 0, 0, 255, 0, 0, 0, 0));
        due("a result thrown away", 8, start + 4, second(0, 0, 0, 16, 1, 0, 0, 0));
        for (int marks : new int[] {2, 4, 5, 6, 8, 126, 128, 254, 255}) {
            due("arguments " + marks, 8, start + 5, second(0, 0, 0, 0, 0, marks, 0, 0));
        }
        due("a local lacks", 8, start + 10, second(0, 0, 0, 2, 0, 0, 0, 0, 1, 1));
        due("a word of the stack lacks", 8, start + 11, second(0, 0, 0, 1, 0, 0, 0, 1, 1, 1, 1));
    }

    private static void tooManyFrames() {
        int start = THIRD + 8;
        due("the 21st", 9, start + 160, withFrames(Rows.zeros(168)));
        due("one byte of the 21st", 9, start + 160, withFrames(Rows.zeros(161)));
    }

    private static void stackAboveForty() {
        int start = THIRD + 8;
        due("41", 9, start + 6, withFrames(Rows.join(Rows.row(0, 0, 0, 0, 0, 0, 0, 41), Rows.zeros(82))));
        due("41, and lacking", 9, start + 6, withFrames(0, 0, 0, 0, 0, 0, 0, 41));
        due("256", 9, start + 6, withFrames(0, 0, 0, 0, 0, 0, 1, 0));
        due("65,535 of the second", 9, start + 14, second(0, 0, 0, 0, 0, 0, 255, 255));
    }

    private static void frameInOrder() {
        int start = THIRD + 16;
        due("lacking ahead of what stands", 8, start + 6, second(0, 0, 0, 32, 0, 2));
        due("the fourth first", 8, start + 3, second(0, 0, 0, 48, 1, 2, 1, 1));
        due("then the fifth", 8, start + 4, second(0, 0, 0, 16, 1, 2, 1, 1));
        due("then the sixth", 8, start + 5, second(0, 0, 0, 15, 1, 2, 1, 1));
        due("then the stack", 9, start + 6, second(0, 0, 0, 15, 1, 1, 1, 1));
        due("then what lacks", 8, start + 8, second(0, 0, 0, 15, 1, 1, 0, 0));
    }

    private static void strangers() {
        int[] small = Rows.chunk(NAME, 1);
        int[] eight = Rows.join(small, small, small, small, small, small, small, small);
        due("the ninth", 9, 12 + 80, Rows.file(eight, small, HEAD_CHUNK, PLAIN, FRAMES));
        due("the ninth at the end", 9, THIRD + 16 + 80, Rows.file(HEAD_CHUNK, PLAIN, FRAMES, eight, Rows.chunk(NAME)));
        due("201 bytes", 9, 12, Rows.file(Rows.chunk(NAME, Rows.zeros(201)), HEAD_CHUNK, PLAIN, FRAMES));
        due("202 bytes behind another", 9, 22, Rows.file(small, Rows.chunk(NAME, Rows.zeros(202)), HEAD_CHUNK));
    }

    private static void missing() {
        int[] stranger = Rows.chunk(NAME, 1);
        due("no A", 10, 12 + 16, Rows.file(FRAMES));
        due("neither B nor C", 10, 12 + 22 + 16, Rows.file(HEAD_CHUNK, FRAMES));
        due("no D", 10, THIRD, Rows.file(HEAD_CHUNK, PLAIN));
        due("strangers alone", 10, 12 + 20, Rows.file(stranger, stranger));
    }

    /** A fault in an early chunk comes ahead of one in a later chunk, whatever their codes. */
    private static void chunkByChunk() {
        int[] broken = Rows.chunk(Rows.D, 1);
        due("8 ahead of 5", 8, 21, Rows.file(broken, PLAIN, HEAD_CHUNK));
        due("5 ahead of 8", 5, 12, Rows.file(PLAIN, broken, HEAD_CHUNK));
        due("7 ahead of 1", 7, 12 + 22 + 4, lengthMended(Rows.join(Rows.file(HEAD_CHUNK, Rows.chunk(Rows.C)), Rows.zeros(3))));
        due("1 ahead of 10", 1, 12 + 22 + 3, lengthMended(Rows.join(Rows.file(HEAD_CHUNK), Rows.zeros(3))));
    }

    private static void whyStays() {
        ZSaves x = Rows.withStory(1, 2, 3);
        Rows.onTape(x, Rows.file(PLAIN));
        x.restore();
        Rows.onTape(x, Rows.join(Rows.HEAD, Rows.row(4)));
        x.story();
        x.save(true);
        x.restart();
        CHECK.due("19: of the latest restore", x.why(0), 5);
        CHECK.due("19: its place", x.why(1), 12);
        x.back();
        CHECK.due("18: restore", x.restore(), 1);
        CHECK.due("19: none any more", x.why(0), 0);
        CHECK.due("19: no place any more", x.why(1), ZSaves.NONE);
    }
}
