import java.util.Arrays;

/** Promises 18 and 19: each fault at its place, the first that is met, and nothing changed. */
public final class FaultsTest {
    private static final int BAD = ZSaves.BAD, NONE = ZSaves.NONE;
    private static final int LOWEST = Integer.MIN_VALUE, HIGHEST = Integer.MAX_VALUE;
    private static final int[] NAME = {1, 2, 3, 4};
    private static final int[] HEAD_CHUNK = Rows.headChunk(77);
    private static final int[] PLAIN = Rows.chunk(Rows.C, Rows.filled(20, 8));
    private static final int[] FRAMES = Rows.framesChunk();
    private static final int[] FILE = Rows.file(HEAD_CHUNK, PLAIN, FRAMES);
    /** Where the CHUNKS of FILE begin, and the bytes of each stand eight behind. */
    private static final int FIRST = 12, SECOND = FIRST + 22, THIRD = SECOND + 28;
    private static final Cases CASES = new Cases();

    public static void main(String[] args) {
        tooShort();
        marks();
        length();
        frontInOrder();
        labelLacks();
        bytesLack();
        hugeNumbers();
        lackingInOrder();
        oneMore();
        oneMoreInOrder();
        aheadOfHead();
        headSize();
        otherHead();
        runsBeyond();
        lastZero();
        plain();
        firstFrame();
        laterFrames();
        thrownAway();
        arguments();
        wordsLack();
        tooManyFrames();
        stackAboveForty();
        frameInOrder();
        strangers();
        missing();
        chunkByChunk();
        why();
        CASES.finish();
    }

    private static int[] lengthMended(int[] file) {
        int[] row = file.clone();
        System.arraycopy(Rows.number(file.length - 8), 0, row, 4, 4);
        return row;
    }

    private static int[] cutTo(int n, int... file) {
        return lengthMended(Rows.first(file, n));
    }

    private static void tooShort() {
        CASES.fault("an empty TAPE", 1, 0);
        CASES.fault("one byte", 1, 1, 70);
        CASES.fault("eleven bytes", 1, 11, Rows.first(FILE, 11));
        CASES.fault("eleven bytes, none as told", 1, 11, Rows.zeros(11));
        CASES.fault("twelve bytes are enough, but no CHUNK", 10, 12, Rows.file());
    }

    private static void marks() {
        for (int i = 0; i < 4; i++) {
            CASES.fault("byte " + i, 2, 0, Rows.with(FILE, i, FILE[i] ^ 128));
            CASES.fault("byte " + (8 + i), 2, 8, Rows.with(FILE, 8 + i, FILE[8 + i] ^ 32));
        }
    }

    private static void length() {
        CASES.fault("one more than stand behind", 3, 4, Rows.with(FILE, 7, FILE[7] + 1));
        CASES.fault("one less", 3, 4, Rows.with(FILE, 7, FILE[7] - 1));
        CASES.fault("none", 3, 4, Rows.with(FILE, 7, 0));
        CASES.fault("as many as the FILE has", 3, 4, Rows.with(FILE, 7, FILE.length));
        for (int i = 4; i < 7; i++) {
            CASES.fault("byte " + i + " is not 0", 3, 4, Rows.with(FILE, i, 1));
        }
        CASES.fault("the highest bit", 3, 4, Rows.with(FILE, 4, 128));
        CASES.fault("the FILE's last byte lacks", 3, 4, Rows.first(FILE, FILE.length - 1));
        CASES.fault("a byte behind the FILE", 3, 4, Rows.join(FILE, Rows.zeros(1)));
        CASES.fault("cut behind 12 bytes", 3, 4, Rows.first(FILE, 12));
    }

    private static void frontInOrder() {
        CASES.fault("at 0 ahead of 3 and of 2 at 8", 2, 0, Rows.zeros(12));
        CASES.fault("ahead of 2 at 8", 3, 4, Rows.join(Rows.FORM, Rows.zeros(8)));
        CASES.fault("at 8 behind 3", 2, 8, Rows.join(Rows.FORM, Rows.number(4), Rows.zeros(4)));
        CASES.fault("at 8 ahead of what stands in CHUNKS", 2, 8,
            Rows.join(Rows.FORM, Rows.number(5), Rows.zeros(5)));
    }

    private static void labelLacks() {
        for (int n = 1; n < 8; n++) {
            CASES.fault(n + " of a CHUNK's eight first bytes", 1, THIRD + n, cutTo(THIRD + n, FILE));
        }
        CASES.fault("one byte behind all CHUNKS", 1, FILE.length + 1, cutTo(FILE.length + 1, FILE));
        CASES.fault("one byte and no CHUNK", 1, 13, cutTo(13, FILE));
    }

    private static void bytesLack() {
        CASES.fault("all bytes of a CHUNK", 1, THIRD + 8, cutTo(THIRD + 8, FILE));
        CASES.fault("a CHUNK's last byte", 1, FILE.length - 1, cutTo(FILE.length - 1, FILE));
        CASES.fault("the only byte of a STRANGER", 1, FILE.length + 8,
            lengthMended(Rows.join(FILE, NAME, Rows.number(1))));
        CASES.fault("the one more of A", 1, SECOND - 1, cutTo(SECOND - 1, FILE));
        CASES.fault("the one more of a STRANGER", 1, FILE.length + 9,
            lengthMended(Rows.join(FILE, NAME, Rows.number(1), Rows.row(5))));
        CASES.fault("a byte and the one more", 1, SECOND - 2, cutTo(SECOND - 2, FILE));
    }

    private static void hugeNumbers() {
        int[] told = {HIGHEST, HIGHEST - 1, LOWEST, LOWEST + 8, -1, -2, -8, -16, 1 << 24, 65536 + 8, 256 + 8,
            HIGHEST - THIRD - 8, HIGHEST - THIRD - 7, HIGHEST - THIRD - 6};
        for (int n : told) {
            int[] file = FILE.clone();
            System.arraycopy(Rows.number(n), 0, file, THIRD + 4, 4);
            CASES.fault("a CHUNK is told to have " + n + " bytes", 1, FILE.length, file);
        }
    }

    private static void lackingInOrder() {
        CASES.fault("ahead of a B without A", 1, 12 + 9, lengthMended(Rows.join(Rows.file(), Rows.B, Rows.number(1), Rows.row(0))));
        CASES.fault("ahead of an A of other than 13 bytes", 1, 12 + 10,
            lengthMended(Rows.join(Rows.file(), Rows.A, Rows.number(12), Rows.row(0, 0))));
        CASES.fault("ahead of a STRANGER above 200 bytes", 1, 12 + 8 + 201,
            lengthMended(Rows.join(Rows.file(), NAME, Rows.number(201), Rows.zeros(201))));
        CASES.fault("of a second A too", 1, FILE.length + 8, lengthMended(Rows.join(FILE, Rows.A, Rows.number(13))));
        CASES.fault("ahead of what is missing", 1, SECOND + 3, cutTo(SECOND + 3, FILE));
    }

    private static void oneMore() {
        int[] file = Rows.file(HEAD_CHUNK, Rows.chunk(Rows.B, 5), FRAMES, Rows.chunk(NAME, 5));
        CASES.fault("of A", 4, SECOND - 1, Rows.with(file, SECOND - 1, 1));
        CASES.fault("of B", 4, SECOND + 9, Rows.with(file, SECOND + 9, 255));
        CASES.fault("of a STRANGER", 4, file.length - 1, Rows.with(file, file.length - 1, 128));
        int[] other = Rows.file(HEAD_CHUNK, Rows.chunk(Rows.C, 5), FRAMES);
        CASES.fault("of C", x -> Rows.story(x, 9), 4, SECOND + 9, Rows.with(other, SECOND + 9, 1));
    }

    private static void oneMoreInOrder() {
        int[] wrongHead = Rows.with(Rows.with(FILE, FIRST + 8, 99), SECOND - 1, 1);
        CASES.fault("of A, ahead of another HEAD", 4, SECOND - 1, wrongHead);
        CASES.fault("of an A of 11 bytes, ahead of that", 4, FIRST + 19,
            Rows.file(Rows.with(Rows.chunk(Rows.A, Rows.zeros(11)), 19, 1)));
        CASES.fault("of a B ahead of A", 4, FIRST + 9, Rows.file(Rows.with(Rows.chunk(Rows.B, 0), 9, 1), HEAD_CHUNK, FRAMES));
        CASES.fault("of a D, ahead of what lacks in it", 4, FIRST + 15,
            Rows.file(Rows.with(Rows.chunk(Rows.D, Rows.zeros(7)), 15, 1), HEAD_CHUNK, PLAIN));
        CASES.fault("of a STRANGER above 200 bytes", 4, FIRST + 209,
            Rows.file(Rows.with(Rows.chunk(NAME, Rows.zeros(201)), 209, 1)));
        CASES.fault("of a second A", 4, FILE.length + 9,
            lengthMended(Rows.join(FILE, Rows.with(Rows.chunk(Rows.A, 1), 9, 1))));
        CASES.fault("of a second C", 4, FILE.length + 9,
            lengthMended(Rows.join(FILE, Rows.with(Rows.chunk(Rows.C, 1), 9, 1))));
        CASES.fault("of a second D", 4, FILE.length + 9,
            lengthMended(Rows.join(FILE, Rows.with(Rows.chunk(Rows.D, 1), 9, 1))));
    }

    private static void aheadOfHead() {
        CASES.fault("B", 5, FIRST, Rows.file(Rows.chunk(Rows.B), HEAD_CHUNK, FRAMES));
        CASES.fault("C", 5, FIRST, Rows.file(PLAIN, HEAD_CHUNK, FRAMES));
        CASES.fault("no A at all", 5, FIRST, Rows.file(PLAIN, FRAMES));
        CASES.fault("behind D", 5, FIRST + 16, Rows.file(FRAMES, PLAIN, HEAD_CHUNK));
        CASES.fault("behind a STRANGER", 5, FIRST + 10, Rows.file(Rows.chunk(NAME, 1), PLAIN, HEAD_CHUNK, FRAMES));
        CASES.fault("ahead of what is in B", 5, FIRST, Rows.file(Rows.chunk(Rows.B, 0), HEAD_CHUNK, FRAMES));
        CASES.fault("ahead of what is in C", 5, FIRST, Rows.file(Rows.chunk(Rows.C, 1), HEAD_CHUNK, FRAMES));
    }

    private static void headSize() {
        for (int n : new int[] {0, 1, 10, 12, 14, 200}) {
            CASES.fault(n + " bytes", 6, FIRST + 4, Rows.file(
                Rows.chunk(Rows.A, Rows.first(Rows.join(Rows.HEAD, Rows.zeros(190)), n)), PLAIN, FRAMES));
        }
        CASES.fault("12 bytes, ahead of another HEAD", 6, FIRST + 4, Rows.file(Rows.chunk(Rows.A, Rows.zeros(12)), PLAIN, FRAMES));
        CASES.fault("behind a STRANGER", 6, FIRST + 14, Rows.file(Rows.chunk(NAME, 1), Rows.chunk(Rows.A), PLAIN, FRAMES));
    }

    private static void otherHead() {
        for (int i = 0; i < 10; i++) {
            CASES.fault("byte " + i + " of the HEAD", 6, FIRST + 8 + i, Rows.with(FILE, FIRST + 8 + i, 128));
        }
        CASES.fault("the first byte that differs", 6, FIRST + 8 + 3,
            Rows.with(Rows.with(FILE, FIRST + 8 + 3, 0), FIRST + 8 + 7, 0));
        CASES.answers("6 a STORY with another HEAD", x -> {
            Cases.rich(x);
            x.save(false);
            Rows.onTape(x, Rows.join(Rows.with(Rows.HEAD, 9, 0), Cases.STORY));
            x.story();
            x.back();
        }, x -> new long[] {x.restore(), x.why(1)}, -16, FIRST + 17);
    }

    private static int[] withRuns(int... runs) {
        return Rows.file(HEAD_CHUNK, Rows.chunk(Rows.B, runs), FRAMES);
    }

    /** MEMORY has twenty bytes. */
    private static void runsBeyond() {
        int start = SECOND + 8;
        CASES.fault("a byte one beyond", 7, start + 20, withRuns(Rows.filled(21, 1)));
        CASES.fault("a byte beyond a RUN to the end", 7, start + 2, withRuns(0, 19, 1));
        CASES.fault("a RUN one beyond", 7, start, withRuns(0, 20));
        CASES.fault("the longest RUN", 7, start, withRuns(0, 255));
        CASES.fault("a RUN one beyond, behind a byte", 7, start + 1, withRuns(9, 0, 19));
        CASES.fault("a RUN of 1 behind all bytes", 7, start + 20, withRuns(Rows.join(Rows.filled(20, 1), Rows.zeros(2))));
        CASES.fault("a RUN of 1 behind a RUN to the end", 7, start + 2, withRuns(0, 19, 0, 0));
        CASES.fault("the first that reaches beyond", 7, start + 2, withRuns(0, 18, 0, 1, 1, 1));
        Cases.Steps byte255 = x -> Rows.story(x, Rows.zeros(255));
        CASES.fault("a RUN of 256 in a MEMORY of 255", byte255, 7, start, withRuns(0, 255));
        Cases.Steps thousand = x -> Rows.story(x, Rows.zeros(1000));
        CASES.fault("the 1,001st byte", thousand, 7, start + 8, withRuns(0, 255, 0, 255, 0, 255, 0, 231, 1));
        CASES.fault("a RUN to the 1,001st byte", thousand, 7, start + 6, withRuns(0, 255, 0, 255, 0, 255, 0, 232));
        Cases.Steps one = x -> Rows.story(x, 9);
        CASES.fault("a second byte of a MEMORY of one", one, 7, start + 1, withRuns(1, 1));
        CASES.fault("a RUN of 2 in a MEMORY of one", one, 7, start, withRuns(0, 1));
    }

    private static void lastZero() {
        int start = SECOND + 8;
        CASES.fault("a last 0 alone", 7, start + 1, withRuns(0));
        CASES.fault("a last 0 behind bytes", 7, start + 3, withRuns(1, 2, 0));
        CASES.fault("a last 0 behind a RUN", 7, start + 3, withRuns(0, 5, 0));
        CASES.fault("a last 0 behind a number that is 0", 7, start + 3, withRuns(0, 0, 0));
        CASES.fault("a last 0 though MEMORY is full", 7, start + 3, withRuns(0, 19, 0));
        CASES.fault("a last 0, the one more is not its number", 7, start + 5, withRuns(1, 1, 1, 1, 0));
        CASES.fault("a last 0 of an even B", 7, start + 2, withRuns(1, 0));
    }

    private static void plain() {
        for (int n : new int[] {0, 1, 19, 21, 256 + 20}) {
            CASES.fault("C of " + n + " bytes", 7, SECOND + 4, Rows.file(HEAD_CHUNK, Rows.chunk(Rows.C, Rows.zeros(n)), FRAMES));
        }
    }

    private static int[] withFrames(int... frames) {
        return Rows.file(HEAD_CHUNK, PLAIN, Rows.chunk(Rows.D, frames));
    }

    private static void firstFrame() {
        int start = THIRD + 8;
        CASES.fault("no bytes", 8, start, withFrames());
        CASES.fault("one byte", 8, start + 1, withFrames(0));
        CASES.fault("seven bytes", 8, start + 7, withFrames(Rows.zeros(7)));
        CASES.fault("six bytes, ahead of one that is not 0", 8, start + 6, withFrames(Rows.filled(6, 1)));
        for (int i = 0; i < 6; i++) {
            CASES.fault("byte " + i + " of the first", 8, start + i, withFrames(Rows.with(Rows.zeros(8), i, 1)));
            CASES.fault("byte " + i + " of the first is 128", 8, start + i, withFrames(Rows.with(Rows.zeros(8), i, 128)));
        }
        CASES.fault("the first byte of two", 8, start + 1, withFrames(0, 1, 0, 0, 0, 1, 0, 0));
        CASES.fault("a LOCAL of the first", 8, start + 3, withFrames(0, 0, 0, 1, 0, 0, 0, 0, 5, 5));
    }

    private static int[] second(int... frame) {
        return withFrames(Rows.join(Rows.zeros(8), frame));
    }

    private static void laterFrames() {
        int start = THIRD + 16;
        for (int n = 1; n < 8; n++) {
            CASES.fault(n + " bytes of the second", 8, start + n, second(Rows.zeros(n)));
        }
        CASES.fault("the fourth byte is 32", 8, start + 3, second(0, 0, 0, 32, 0, 0, 0, 0));
        CASES.fault("the fourth byte is 64", 8, start + 3, second(0, 0, 0, 64, 0, 0, 0, 0));
        CASES.fault("the fourth byte is 128", 8, start + 3, second(0, 0, 0, 128, 0, 0, 0, 0));
        CASES.fault("the fourth byte is 255", 8, start + 3, second(0, 0, 0, 255, 0, 0, 0, 0));
        CASES.fault("a byte behind a FRAME and its WORDS", 8, start + 13, second(0, 0, 0, 1, 0, 0, 0, 1, 1, 1, 2, 2, 0));
    }

    private static void thrownAway() {
        int start = THIRD + 16;
        CASES.fault("a RESULT 1 though thrown away", 8, start + 4, second(0, 0, 0, 16, 1, 0, 0, 0));
        CASES.fault("a RESULT 255 though thrown away", 8, start + 4, second(0, 0, 0, 16, 255, 0, 0, 0));
        CASES.fault("a RESULT though thrown away, fifteen LOCALS", 8, start + 4,
            second(Rows.join(Rows.row(0, 0, 0, 31, 1, 0, 0, 0), Rows.zeros(30))));
    }

    private static void arguments() {
        boolean[] told = new boolean[256];
        for (int marks : new int[] {0, 1, 3, 7, 15, 31, 63, 127}) {
            told[marks] = true;
        }
        for (int marks = 0; marks < 256; marks++) {
            if (!told[marks]) {
                CASES.fault("the sixth byte is " + marks, x -> Rows.story(x, Cases.STORY), 8, THIRD + 16 + 5,
                    second(0, 0, 0, 0, 0, marks, 0, 0));
            }
        }
    }

    private static void wordsLack() {
        int start = THIRD + 8;
        CASES.fault("a WORD of the first", 8, start + 10, withFrames(0, 0, 0, 0, 0, 0, 0, 2, 1, 1));
        CASES.fault("half a WORD of the first", 8, start + 9, withFrames(0, 0, 0, 0, 0, 0, 0, 1, 1));
        CASES.fault("all WORDS of the first", 8, start + 8, withFrames(0, 0, 0, 0, 0, 0, 0, 40));
        CASES.fault("a LOCAL of the second", 8, start + 18, second(0, 0, 0, 2, 0, 0, 0, 0, 1, 1));
        CASES.fault("half a LOCAL of the second", 8, start + 17, second(0, 0, 0, 1, 0, 0, 0, 0, 1));
        CASES.fault("a WORD of the second's STACK", 8, start + 18, second(0, 0, 0, 1, 0, 0, 0, 1, 1, 1));
        CASES.fault("half a WORD of the second's STACK", 8, start + 19, second(0, 0, 0, 1, 0, 0, 0, 1, 1, 1, 1));
        CASES.fault("LOCALS that a thrown RESULT tells", 8, start + 16, second(0, 0, 0, 17, 0, 0, 0, 0));
        CASES.fault("WORDS of a D in the FILE's middle", 8, FIRST + 16,
            Rows.file(Rows.chunk(Rows.D, 0, 0, 0, 0, 0, 0, 0, 1), HEAD_CHUNK, PLAIN));
    }

    private static void tooManyFrames() {
        int start = THIRD + 8;
        CASES.fault("the 21st FRAME", 9, start + 160, withFrames(Rows.zeros(168)));
        CASES.fault("one byte of the 21st", 9, start + 160, withFrames(Rows.zeros(161)));
        CASES.fault("the 21st, not as told", 9, start + 160, withFrames(Rows.join(Rows.zeros(160), Rows.filled(8, 255))));
        CASES.fault("the 21st of 22", 9, start + 160, withFrames(Rows.zeros(176)));
        CASES.fault("the 21st behind WORDS", 9, start + 162,
            withFrames(Rows.join(Rows.row(0, 0, 0, 0, 0, 0, 0, 1, 9, 9), Rows.zeros(160))));
        CASES.fault("the twentieth not as told", 8, start + 152 + 3,
            withFrames(Rows.join(Rows.zeros(152), Rows.row(0, 0, 0, 32, 0, 0, 0, 0))));
        CASES.fault("the twentieth lacks", 8, start + 159, withFrames(Rows.zeros(159)));
    }

    private static void stackAboveForty() {
        int start = THIRD + 8;
        CASES.fault("41 of the first", 9, start + 6, withFrames(Rows.join(Rows.row(0, 0, 0, 0, 0, 0, 0, 41), Rows.zeros(82))));
        CASES.fault("41 of the first, and they lack", 9, start + 6, withFrames(0, 0, 0, 0, 0, 0, 0, 41));
        CASES.fault("255", 9, start + 6, withFrames(0, 0, 0, 0, 0, 0, 0, 255));
        CASES.fault("256", 9, start + 6, withFrames(0, 0, 0, 0, 0, 0, 1, 0));
        CASES.fault("256 and 40", 9, start + 6, withFrames(Rows.join(Rows.row(0, 0, 0, 0, 0, 0, 1, 40), Rows.zeros(80))));
        CASES.fault("32,768", 9, start + 6, withFrames(0, 0, 0, 0, 0, 0, 128, 0));
        CASES.fault("65,535 of the second", 9, start + 14, second(0, 0, 0, 0, 0, 0, 255, 255));
        CASES.fault("41 of the second", 9, start + 14, second(Rows.join(Rows.row(0, 0, 0, 0, 0, 0, 0, 41), Rows.zeros(82))));
        CASES.fault("41 of the twentieth", 9, start + 152 + 6,
            withFrames(Rows.join(Rows.zeros(152), Rows.row(0, 0, 0, 0, 0, 0, 0, 41), Rows.zeros(82))));
    }

    private static void frameInOrder() {
        int start = THIRD + 16;
        CASES.fault("eight bytes lack, ahead of what stands", 8, start + 7, second(0, 0, 0, 32, 1, 2, 1));
        CASES.fault("the fourth byte first", 8, start + 3, second(0, 0, 0, 48, 1, 2, 1, 1));
        CASES.fault("then the fifth", 8, start + 4, second(0, 0, 0, 31, 1, 2, 1, 1));
        CASES.fault("then the sixth", 8, start + 5, second(0, 0, 0, 15, 1, 2, 1, 1));
        CASES.fault("then the two of the STACK, ahead of what lacks", 9, start + 6, second(0, 0, 0, 15, 1, 1, 1, 1));
        CASES.fault("then what lacks", 8, start + 8, second(0, 0, 0, 15, 1, 1, 0, 0));
        CASES.fault("a byte of the first six, ahead of its STACK", 8, THIRD + 8 + 5, withFrames(0, 0, 0, 0, 0, 1, 1, 1));
        CASES.fault("the first FRAME ahead of the second", 9, THIRD + 8 + 6,
            withFrames(Rows.join(Rows.row(0, 0, 0, 0, 0, 0, 0, 41), Rows.filled(82, 9), Rows.filled(3, 255))));
    }

    private static void strangers() {
        int[] small = Rows.chunk(NAME, 1);
        int[] eight = Rows.join(small, small, small, small, small, small, small, small);
        CASES.fault("the ninth STRANGER", 9, FIRST + 80, Rows.file(eight, small, HEAD_CHUNK, PLAIN, FRAMES));
        CASES.fault("the ninth STRANGER, without bytes", 9, FILE.length + 80, lengthMended(Rows.join(FILE, eight, Rows.chunk(NAME))));
        CASES.fault("the ninth STRANGER, of another NAME", 9, FILE.length + 80,
            lengthMended(Rows.join(FILE, eight, Rows.chunk(Rows.zeros(4), 1))));
        CASES.fault("the ninth STRANGER, behind seconds", 9, FIRST + 80 + 22 + 22,
            Rows.file(eight, HEAD_CHUNK, HEAD_CHUNK, small, PLAIN, FRAMES));
        CASES.fault("a STRANGER of 201 bytes", 9, FIRST, Rows.file(Rows.chunk(NAME, Rows.zeros(201)), HEAD_CHUNK, PLAIN, FRAMES));
        CASES.fault("a STRANGER of 202 bytes", 9, FIRST + 10, Rows.file(small, Rows.chunk(NAME, Rows.zeros(202)), HEAD_CHUNK));
        CASES.fault("a STRANGER of 456 bytes", 9, FILE.length, lengthMended(Rows.join(FILE, Rows.chunk(NAME, Rows.zeros(456)))));
        CASES.fault("a STRANGER as large as THE TAPE lets it be", 9, FIRST, Rows.file(Rows.chunk(NAME, Rows.zeros(1980))));
        CASES.fault("the ninth STRANGER of 201 bytes", 9, FIRST + 80, Rows.file(eight, Rows.chunk(NAME, Rows.zeros(201))));
    }

    private static void missing() {
        int[] stranger = Rows.chunk(NAME, 1);
        CASES.fault("no A, with D", 10, FIRST + 16, Rows.file(FRAMES));
        CASES.fault("neither B nor C", 10, FIRST + 22 + 16, Rows.file(HEAD_CHUNK, FRAMES));
        CASES.fault("no D", 10, THIRD, Rows.file(HEAD_CHUNK, PLAIN));
        CASES.fault("A alone", 10, SECOND, Rows.file(HEAD_CHUNK));
        CASES.fault("STRANGERS alone", 10, FIRST + 20, Rows.file(stranger, stranger));
        CASES.fault("a second A is no D", 10, THIRD + 22, Rows.file(HEAD_CHUNK, PLAIN, HEAD_CHUNK));
        CASES.fault("a second C is no D", 10, THIRD + 28, Rows.file(HEAD_CHUNK, PLAIN, PLAIN));
        CASES.fault("a second D is neither B nor C", 10, FIRST + 22 + 32, Rows.file(HEAD_CHUNK, FRAMES, FRAMES));
        CASES.fault("behind STRANGERS", 10, THIRD + 10, Rows.file(HEAD_CHUNK, PLAIN, stranger));
        int[] most = Rows.file(FRAMES);
        while (most.length + 8 <= 2000) {
            most = Rows.join(most, Rows.chunk(Rows.D));
        }
        CASES.fault("behind as many CHUNKS as THE TAPE can have", x -> Rows.story(x, 9), 10, most.length, lengthMended(most));
    }

    /** A fault in an early CHUNK comes ahead of one in a later CHUNK, whatever their codes. */
    private static void chunkByChunk() {
        int[] broken = Rows.chunk(Rows.D, 1);
        int[] large = Rows.chunk(NAME, Rows.zeros(201));
        int[] spoiled = Rows.with(Rows.chunk(NAME, 1), 9, 1);
        CASES.fault("ahead of 5", 8, FIRST + 9, Rows.file(broken, PLAIN, HEAD_CHUNK));
        CASES.fault("ahead of 8", 5, FIRST, Rows.file(PLAIN, broken, HEAD_CHUNK));
        CASES.fault("ahead of 4", 9, FIRST, Rows.file(large, spoiled));
        CASES.fault("ahead of 9", 4, FIRST + 9, Rows.file(spoiled, large));
        CASES.fault("ahead of 1", 7, SECOND + 4, lengthMended(Rows.join(Rows.file(HEAD_CHUNK, Rows.chunk(Rows.C)), Rows.zeros(3))));
        CASES.fault("ahead of 10", 6, FIRST + 4, Rows.file(Rows.chunk(Rows.A)));
        int[] most = FILE;
        while (most.length + 8 <= 2000) {
            most = Rows.join(most, Rows.chunk(Rows.D));
        }
        int[] last = lengthMended(Rows.join(Arrays.copyOf(most, most.length - 8), Rows.D, Rows.number(1)));
        CASES.fault("in the last CHUNK that THE TAPE can have", x -> Rows.story(x, Cases.STORY), 1, last.length, last);
    }

    private static void why() {
        Cases.Steps faulty = x -> {
            Rows.story(x, 1, 2, 3);
            Rows.restored(x, FRAMES, PLAIN);
        };
        CASES.answers("19 the CODE and the place", faulty, x -> new long[] {x.why(0), x.why(1)}, 5, FIRST + 16);
        CASES.answers("19 of the latest restore(), another fault", faulty,
            x -> new long[] {x.restore(), x.why(0), x.why(1)}, -11, 1, 0);
        CASES.answers("19 of the latest restore(), without a fault", faulty, x -> new long[] {
            Rows.restored(x, HEAD_CHUNK, Rows.chunk(Rows.B), FRAMES), x.why(0), x.why(1)}, 1, 0, NONE);
        CASES.answers("19 a restore() that was refused does not count", x -> {
            x.restore();
            Rows.story(x, 1, 2, 3);
        }, x -> new long[] {x.why(0), x.why(1)}, 0, NONE);
        CASES.answers("19 it stays, whatever else is called", faulty, x -> {
            x.save(false);
            x.write();
            x.keep();
            x.undo();
            x.restart();
            x.story();
            Rows.story(x, 9);
            return new long[] {x.why(0), x.why(1)};
        }, 5, FIRST + 16);
        CASES.refused("19 BAD: -1", Cases::rich, x -> x.why(-1), BAD);
        CASES.refused("19 BAD: 2", Cases::rich, x -> x.why(2), BAD);
        CASES.refused("19 BAD: the lowest number", Cases::rich, x -> x.why(LOWEST), BAD);
        CASES.refused("19 BAD: the highest number", Cases::rich, x -> x.why(HIGHEST), BAD);
        CASES.refused("19 BAD: ahead of the first restore()", Cases.NEW, x -> x.why(2), BAD);
    }
}
