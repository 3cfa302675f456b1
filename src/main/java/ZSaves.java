/** Sessions of a story machine and their save files; the promises stand in DOC.md. */
public final class ZSaves {
    public static final int BAD = -1, NONE = -2, FULL = -3, STATE = -4;

    private static final int TAPE_ROOM = 2000;
    private static final int OUT_ROOM = 8000;
    private static final int HEAD_SIZE = 10;
    private static final int MOST_MEMORY = 1000;
    private static final int MOST_PC = 0xFFFFFF;
    private static final int MOST_BYTE = 255;
    private static final int MOST_WORD = 65535;
    private static final int MOST_FRAMES = 20;
    private static final int MOST_ARGUMENTS = 7;
    private static final int MOST_LOCALS = 15;
    private static final int MOST_STACK = 40;
    private static final int BITS_AT = 17;
    private static final int BITS = 3;

    private static final int FORM = 0x464F524D;
    private static final int IFZS = 0x49465A53;
    private static final int HEAD_NAME = 0x49466864;
    private static final int RUNS_NAME = 0x434D656D;
    private static final int PLAIN_NAME = 0x554D656D;
    private static final int FRAMES_NAME = 0x53746B73;
    private static final int FRONT_SIZE = 12;
    private static final int LABEL_SIZE = 8;
    private static final int HEAD_CHUNK_SIZE = HEAD_SIZE + 3;
    private static final int LONGEST_RUN = 256;
    private static final int FRAME_LABEL_SIZE = 8;
    private static final int THROWN_AWAY = 16;
    private static final int MOST_STRANGERS = 8;
    private static final int MOST_STRANGER_SIZE = 200;
    private static final int OWN_CHUNKS = 3;
    private static final int MOST_CHUNKS_READ = TAPE_ROOM / LABEL_SIZE;

    private static final int LACKING = 1;
    private static final int WRONG_MARK = 2;
    private static final int WRONG_LENGTH = 3;
    private static final int WRONG_PAD = 4;
    private static final int AHEAD_OF_HEAD = 5;
    private static final int WRONG_HEAD = 6;
    private static final int WRONG_MEMORY = 7;
    private static final int WRONG_FRAME = 8;
    private static final int TOO_MUCH = 9;
    private static final int MISSING = 10;
    private static final int NO_FAULT = 0;
    private static final int PLACE_BITS = 16;
    private static final int PLACE_MASK = 0xFFFF;

    private static final int MOST_KEPT = 8;
    private static final int FIRST_BOUND = 1000;
    private static final int MOST_BOUND = 10000;
    /** Every second byte of MEMORY changed makes the longest B; all FRAMES full make the longest D. */
    private static final int MOST_WEIGHT = MOST_MEMORY / 2 * 3
        + MOST_FRAMES * (FRAME_LABEL_SIZE + 2 * (MOST_LOCALS + MOST_STACK));

    private static final long PRINT_START = -3750763034362895579L;
    private static final long PRINT_FACTOR = 1099511628211L;

    private final Reader reader;
    private final Writer writer;
    private final Bytes tape;
    private final Bytes output;
    private final Bytes disk;
    private final Bytes work;
    private final Story tale;
    private final Kept kept;
    private Session now;
    private Session spare;
    private Strangers known;
    private Strangers coming;
    private boolean written;
    private int cutAt;
    private int faultCode;
    private int faultPlace;

    public ZSaves() {
        reader = new Reader();
        writer = new Writer();
        tape = reader.file;
        output = writer.file;
        disk = new Bytes(OUT_ROOM);
        work = new Bytes(MOST_WEIGHT);
        tale = new Story();
        kept = new Kept();
        now = new Session();
        spare = new Session();
        known = new Strangers();
        coming = new Strangers();
        written = false;
        cutAt = NONE;
        faultCode = 0;
        faultPlace = NONE;
    }

    public int feed(int a, int b, int c, int d, int e) {
        if (tape.room() < 20) {
            return FULL;
        }
        tape.addNumber(a, 4);
        tape.addNumber(b, 4);
        tape.addNumber(c, 4);
        tape.addNumber(d, 4);
        tape.addNumber(e, 4);
        return tape.size;
    }

    public int end(int n) {
        if (!within(n, tape.size)) {
            return BAD;
        }
        int gone = tape.size - n;
        tape.keepFirst(n);
        return gone;
    }

    public int out(int i) {
        return within(i, output.size - 1) ? output.at(i) : BAD;
    }

    public int back() {
        return fillTape(output);
    }

    public int story() {
        int size = tape.size - HEAD_SIZE;
        boolean fits = size >= 1 && size <= MOST_MEMORY;
        if (fits) {
            tale.takeFrom(tape);
            now.begin(tale);
            known.clear();
            kept.clear();
        }
        tape.clear();
        return fits ? size : BAD;
    }

    public int poke(int at, int v) {
        if (noStory()) {
            return STATE;
        }
        if (!within(at, now.size - 1) || !within(v, MOST_BYTE)) {
            return BAD;
        }
        int before = now.byteAt(at);
        now.setByte(at, v);
        return before;
    }

    public int peek(int at) {
        if (noStory()) {
            return STATE;
        }
        return within(at, now.size - 1) ? now.byteAt(at) : BAD;
    }

    public int jump(int v) {
        if (noStory()) {
            return STATE;
        }
        if (!within(v, MOST_PC)) {
            return BAD;
        }
        int before = now.pc;
        now.pc = v;
        return before;
    }

    public int call(int to, int result, int arguments, int locals) {
        if (noStory()) {
            return STATE;
        }
        boolean resultFits = result == NONE || within(result, MOST_BYTE);
        if (!within(to, MOST_PC) || !resultFits || !within(arguments, MOST_ARGUMENTS)
            || !within(locals, MOST_LOCALS)) {
            return BAD;
        }
        if (now.count >= MOST_FRAMES) {
            return FULL;
        }
        now.addFrame(now.pc, result, arguments, locals);
        now.pc = to;
        return now.count;
    }

    public int leave() {
        if (noStory()) {
            return STATE;
        }
        Frame newest = now.newest();
        if (newest == null || now.count <= 1) {
            return NONE;
        }
        now.pc = newest.back;
        now.count--;
        return now.pc;
    }

    public int local(int i, int v) {
        if (noStory()) {
            return STATE;
        }
        Frame newest = now.newest();
        if (newest == null || !within(i, newest.locals - 1) || !within(v, MOST_WORD)) {
            return BAD;
        }
        int before = newest.wordAt(i);
        newest.setWord(i, v);
        return before;
    }

    public int push(int v) {
        if (noStory()) {
            return STATE;
        }
        if (!within(v, MOST_WORD)) {
            return BAD;
        }
        Frame newest = now.newest();
        if (newest == null || newest.depth >= MOST_STACK) {
            return FULL;
        }
        newest.stackWord(v);
        return newest.depth;
    }

    public int pop() {
        if (noStory()) {
            return STATE;
        }
        Frame newest = now.newest();
        if (newest == null || newest.depth <= 0) {
            return NONE;
        }
        int last = newest.wordAt(newest.words() - 1);
        newest.depth--;
        return last;
    }

    public int frame(int i, int what) {
        if (noStory()) {
            return STATE;
        }
        Frame asked = now.frameAt(i);
        if (asked == null) {
            return NONE;
        }
        if (what >= 10) {
            return what - 10 < asked.words() ? asked.wordAt(what - 10) : NONE;
        }
        switch (what) {
            case 0: return asked.back;
            case 1: return asked.result;
            case 2: return asked.arguments;
            case 3: return asked.locals;
            case 4: return asked.depth;
            default: return BAD;
        }
    }

    public long print() {
        if (noStory()) {
            return 0L;
        }
        long h = PRINT_START;
        for (int i = 0; i < now.size; i++) {
            h = printed(h, now.byteAt(i));
        }
        work.clear();
        work.addNumber(now.pc, 3);
        now.tellFrames(work);
        for (int i = 0; i < work.size; i++) {
            h = printed(h, work.at(i));
        }
        return h;
    }

    public int save(boolean plain) {
        if (noStory()) {
            return STATE;
        }
        writer.startFile();
        writer.openChunk(HEAD_NAME);
        tale.tellHead(output);
        output.addNumber(now.pc, 3);
        writer.closeChunk();
        writer.openChunk(plain ? PLAIN_NAME : RUNS_NAME);
        if (plain) {
            now.tellMemory(output);
        } else {
            now.tellRuns(tale, output);
        }
        writer.closeChunk();
        writer.openChunk(FRAMES_NAME);
        now.tellFrames(output);
        writer.closeChunk();
        writer.addStrangers(known);
        writer.endFile();
        return output.size;
    }

    public int restore() {
        if (noStory()) {
            tape.clear();
            return STATE;
        }
        int fault = reader.readFor(tale, spare, coming);
        tape.clear();
        faultCode = fault >>> PLACE_BITS;
        faultPlace = fault == NO_FAULT ? NONE : fault & PLACE_MASK;
        if (fault != NO_FAULT) {
            return -10 - faultCode;
        }
        turnToSpare();
        turnToComing();
        return 1;
    }

    public int why(int what) {
        switch (what) {
            case 0: return faultCode;
            case 1: return faultPlace;
            default: return BAD;
        }
    }

    public int chunk(int i, int what) {
        if (!within(what, 2)) {
            return BAD;
        }
        return within(i, writer.count - 1) ? writer.tellChunk(i, what) : NONE;
    }

    public int write() {
        boolean isCut = cutAt != NONE && output.size > cutAt;
        cutAt = NONE;
        if (isCut) {
            return 0;
        }
        disk.copyOf(output);
        written = true;
        return 1;
    }

    public int cut(int n) {
        if (n < 0 && n != NONE) {
            return BAD;
        }
        cutAt = n;
        return 1;
    }

    public int load() {
        return written ? fillTape(disk) : NONE;
    }

    public int keep() {
        if (noStory()) {
            return STATE;
        }
        int runsSize = weighNow();
        if (work.size > kept.limit) {
            return FULL;
        }
        kept.add(work, runsSize, now.pc);
        return kept.count;
    }

    public int undo() {
        if (noStory()) {
            return STATE;
        }
        if (kept.count <= 0) {
            return NONE;
        }
        kept.takeLatest(tale, spare);
        turnToSpare();
        return kept.count;
    }

    public int bound(int n) {
        if (!within(n, MOST_BOUND)) {
            return BAD;
        }
        int before = kept.limit;
        kept.limit = n;
        kept.shrink(MOST_KEPT, n);
        return before;
    }

    public int restart() {
        if (noStory()) {
            return STATE;
        }
        spare.begin(tale);
        turnToSpare();
        return 1;
    }

    public int told(int what) {
        switch (what) {
            case 0: return now.size;
            case 1: return now.pc;
            case 2: return now.count;
            case 3: return kept.count;
            case 4: return kept.rows.size;
            case 5:
                weighNow();
                return work.size;
            case 6: return known.count;
            case 7: return tape.size;
            case 8: return output.size;
            case 9: return written ? disk.size : NONE;
            default: return BAD;
        }
    }

    private boolean noStory() {
        return tale.size == 0;
    }

    private static boolean within(int n, int most) {
        return n >= 0 && n <= most;
    }

    private static long printed(long h, int b) {
        return (h ^ b) * PRINT_FACTOR;
    }

    private int fillTape(Bytes from) {
        if (from.size > TAPE_ROOM) {
            return FULL;
        }
        tape.copyOf(from);
        return tape.size;
    }

    /** THE BITS belong to whoever plays, so the one that comes takes them from the one that goes. */
    private void turnToSpare() {
        Session before = now;
        spare.setBits(before.bits());
        now = spare;
        spare = before;
    }

    private void turnToComing() {
        Strangers before = known;
        known = coming;
        coming = before;
    }

    /** Leaves B and D of the SESSION in the work row: how many bytes of it are B. */
    private int weighNow() {
        work.clear();
        now.tellRuns(tale, work);
        int runsSize = work.size;
        now.tellFrames(work);
        return runsSize;
    }

    /** Code and place in one number, so that a check can answer both and stop at once. */
    private static int fault(int code, int place) {
        return code << PLACE_BITS | place;
    }

    /** A row of bytes that never grows beyond its room. */
    private static final class Bytes {
        private final int[] cells;
        private int size;

        Bytes(int room) {
            cells = new int[Math.max(room, 0)];
            size = 0;
        }

        int room() {
            return cells.length - size;
        }

        int at(int i) {
            return i >= 0 && i < size && i < cells.length ? cells[i] : 0;
        }

        int number(int from, int bytes) {
            int number = 0;
            for (int i = 0; i < bytes; i++) {
                number = number << 8 | at(from + i);
            }
            return number;
        }

        void add(int b) {
            if (size >= 0 && size < cells.length) {
                cells[size] = b & MOST_BYTE;
                size++;
            }
        }

        void addNumber(int number, int bytes) {
            for (int i = bytes - 1; i >= 0; i--) {
                add(number >>> (8 * i));
            }
        }

        void addPart(Bytes other, int from, int n) {
            if (from >= 0 && n >= 0 && n <= other.size - from && n <= room()) {
                System.arraycopy(other.cells, from, cells, size, n);
                size += n;
            }
        }

        void setNumber(int from, int number) {
            if (from >= 0 && from <= size - 4) {
                for (int i = 0; i < 4; i++) {
                    cells[from + i] = number >>> (24 - 8 * i) & MOST_BYTE;
                }
            }
        }

        void copyOf(Bytes other) {
            clear();
            addPart(other, 0, other.size);
        }

        void keepFirst(int n) {
            if (n >= 0 && n < size) {
                size = n;
            }
        }

        void dropFirst(int n) {
            if (n >= 0 && n <= size) {
                System.arraycopy(cells, n, cells, 0, size - n);
                size -= n;
            }
        }

        void clear() {
            size = 0;
        }
    }

    /** A STORY; without bytes there is none. */
    private static final class Story {
        private final int[] head = new int[HEAD_SIZE];
        private final int[] bytes = new int[MOST_MEMORY];
        private int size = 0;

        void takeFrom(Bytes tape) {
            for (int i = 0; i < HEAD_SIZE; i++) {
                head[i] = tape.at(i);
            }
            size = Math.max(0, Math.min(tape.size - HEAD_SIZE, MOST_MEMORY));
            for (int i = 0; i < size; i++) {
                bytes[i] = tape.at(HEAD_SIZE + i);
            }
        }

        int byteAt(int i) {
            return i >= 0 && i < size && i < bytes.length ? bytes[i] : 0;
        }

        int headAt(int i) {
            return i >= 0 && i < head.length ? head[i] : 0;
        }

        void tellHead(Bytes to) {
            for (int i = 0; i < HEAD_SIZE; i++) {
                to.add(head[i]);
            }
        }
    }

    /** A FRAME: its LOCALS and, behind them, its STACK share one row of WORDS. */
    private static final class Frame {
        private final int[] row = new int[MOST_LOCALS + MOST_STACK];
        private int back = 0;
        private int result = 0;
        private int arguments = 0;
        private int locals = 0;
        private int depth = 0;

        void begin(int back, int result, int arguments, int locals) {
            this.back = back;
            this.result = result;
            this.arguments = arguments;
            this.locals = locals;
            depth = 0;
            for (int k = 0; k < MOST_LOCALS; k++) {
                row[k] = 0;
            }
        }

        int words() {
            return locals + depth;
        }

        int wordAt(int k) {
            return k >= 0 && k < row.length ? row[k] : 0;
        }

        void setWord(int k, int v) {
            if (k >= 0 && k < row.length) {
                row[k] = v;
            }
        }

        void stackWord(int v) {
            if (depth < MOST_STACK) {
                setWord(locals + depth, v);
                depth++;
            }
        }

        void tell(Bytes to) {
            boolean thrown = result == NONE;
            to.addNumber(back, 3);
            to.add(thrown ? locals + THROWN_AWAY : locals);
            to.add(thrown ? 0 : result);
            to.add((1 << arguments) - 1);
            to.addNumber(depth, 2);
            for (int k = 0; k < words(); k++) {
                to.addNumber(wordAt(k), 2);
            }
        }
    }

    /** A SESSION, and the bytes that tell it in a FILE. */
    private static final class Session {
        private final int[] memory = new int[MOST_MEMORY];
        private final Frame[] frames = new Frame[MOST_FRAMES];
        private int size = 0;
        private int pc = 0;
        private int count = 0;

        Session() {
            for (int i = 0; i < MOST_FRAMES; i++) {
                frames[i] = new Frame();
            }
        }

        void begin(Story story) {
            size = story.size;
            for (int i = 0; i < size; i++) {
                setByte(i, story.byteAt(i));
            }
            pc = 0;
            count = 0;
            addFrame(0, 0, 0, 0);
        }

        int byteAt(int i) {
            return i >= 0 && i < size && i < memory.length ? memory[i] : 0;
        }

        void setByte(int i, int v) {
            if (i >= 0 && i < size && i < memory.length) {
                memory[i] = v;
            }
        }

        int bits() {
            return byteAt(BITS_AT) & BITS;
        }

        void setBits(int bits) {
            setByte(BITS_AT, byteAt(BITS_AT) & ~BITS | bits & BITS);
        }

        Frame frameAt(int i) {
            return i >= 0 && i < count && i < frames.length ? frames[i] : null;
        }

        Frame newest() {
            return frameAt(count - 1);
        }

        void addFrame(int back, int result, int arguments, int locals) {
            Frame next = count >= 0 && count < frames.length ? frames[count] : null;
            if (next != null) {
                next.begin(back, result, arguments, locals);
                count++;
            }
        }

        void tellMemory(Bytes to) {
            for (int i = 0; i < size; i++) {
                to.add(byteAt(i));
            }
        }

        void tellRuns(Story story, Bytes to) {
            int zeros = 0;
            for (int i = 0; i < size; i++) {
                int differs = byteAt(i) ^ story.byteAt(i);
                if (differs == 0) {
                    zeros++;
                } else {
                    tellZeros(zeros, to);
                    to.add(differs);
                    zeros = 0;
                }
            }
        }

        private static void tellZeros(int zeros, Bytes to) {
            for (int left = zeros; left > 0; left -= LONGEST_RUN) {
                to.add(0);
                to.add(Math.min(left, LONGEST_RUN) - 1);
            }
        }

        void tellFrames(Bytes to) {
            for (int i = 0; i < count; i++) {
                Frame next = frameAt(i);
                if (next != null) {
                    next.tell(to);
                }
            }
        }

        void takeMemory(Bytes from, int start) {
            for (int i = 0; i < size; i++) {
                setByte(i, from.at(start + i));
            }
        }

        /** MEMORY must be the STORY's own ahead of this: RUNS leave it as it is. */
        int takeRuns(Bytes from, int start, int end) {
            int filled = 0;
            for (int at = start; at < end; at++) {
                int b = from.at(at);
                if (b == 0 && at + 1 >= end) {
                    return fault(WRONG_MEMORY, at + 1);
                }
                int covers = b == 0 ? from.at(at + 1) + 1 : 1;
                if (filled + covers > size) {
                    return fault(WRONG_MEMORY, at);
                }
                if (b == 0) {
                    at++;
                } else {
                    setByte(filled, byteAt(filled) ^ b);
                }
                filled += covers;
            }
            return NO_FAULT;
        }

        int takeFrames(Bytes from, int start, int end) {
            count = 0;
            int at = start;
            for (int i = 0; i < MOST_FRAMES; i++) {
                if (i > 0 && at >= end) {
                    return NO_FAULT;
                }
                int fault = frameFault(from, at, end);
                if (fault != NO_FAULT) {
                    return fault;
                }
                at = takeFrame(from, at);
            }
            return at < end ? fault(TOO_MUCH, at) : NO_FAULT;
        }

        private int frameFault(Bytes from, int at, int end) {
            if (end - at < FRAME_LABEL_SIZE) {
                return fault(WRONG_FRAME, end);
            }
            int wrong = count == 0 ? wrongInFirst(from, at) : wrongInLater(from, at);
            if (wrong != NONE) {
                return fault(WRONG_FRAME, at + wrong);
            }
            int depth = from.number(at + 6, 2);
            if (depth > MOST_STACK) {
                return fault(TOO_MUCH, at + 6);
            }
            int words = (from.at(at + 3) & MOST_LOCALS) + depth;
            return end - at - FRAME_LABEL_SIZE < 2 * words ? fault(WRONG_FRAME, end) : NO_FAULT;
        }

        private static int wrongInFirst(Bytes from, int at) {
            for (int i = 0; i < 6; i++) {
                if (from.at(at + i) != 0) {
                    return i;
                }
            }
            return NONE;
        }

        private static int wrongInLater(Bytes from, int at) {
            int shape = from.at(at + 3);
            if (shape > MOST_LOCALS + THROWN_AWAY) {
                return 3;
            }
            if (shape >= THROWN_AWAY && from.at(at + 4) != 0) {
                return 4;
            }
            int marks = from.at(at + 5);
            boolean lowestOnly = (marks & marks + 1) == 0;
            return lowestOnly && marks < 1 << MOST_ARGUMENTS ? NONE : 5;
        }

        private int takeFrame(Bytes from, int at) {
            int shape = from.at(at + 3);
            int locals = shape & MOST_LOCALS;
            int result = shape >= THROWN_AWAY ? NONE : from.at(at + 4);
            int depth = from.number(at + 6, 2);
            addFrame(from.number(at, 3), result, Integer.bitCount(from.at(at + 5)), locals);
            int next = at + FRAME_LABEL_SIZE;
            Frame taken = newest();
            for (int k = 0; taken != null && k < locals + depth; k++) {
                int word = from.number(next + 2 * k, 2);
                if (k < locals) {
                    taken.setWord(k, word);
                } else {
                    taken.stackWord(word);
                }
            }
            return next + 2 * (locals + depth);
        }
    }

    /** The STRANGERS of one FILE, their bytes in one row. */
    private static final class Strangers {
        private final Bytes rows = new Bytes(MOST_STRANGERS * MOST_STRANGER_SIZE);
        private final int[] names = new int[MOST_STRANGERS];
        private final int[] sizes = new int[MOST_STRANGERS];
        private int count = 0;

        void clear() {
            rows.clear();
            count = 0;
        }

        boolean add(int name, Bytes from, int start, int n) {
            if (count < 0 || count >= MOST_STRANGERS || n > MOST_STRANGER_SIZE) {
                return false;
            }
            names[count] = name;
            sizes[count] = n;
            rows.addPart(from, start, n);
            count++;
            return true;
        }
    }

    /** Writes a FILE, which is THE OUT, and knows its CHUNKS until the next one. */
    private static final class Writer {
        private final Bytes file = new Bytes(OUT_ROOM);
        private final int[] names = new int[OWN_CHUNKS + MOST_STRANGERS];
        private final int[] begins = new int[OWN_CHUNKS + MOST_STRANGERS];
        private final int[] sizes = new int[OWN_CHUNKS + MOST_STRANGERS];
        private int count = 0;

        void startFile() {
            count = 0;
            file.clear();
            file.addNumber(FORM, 4);
            file.addNumber(0, 4);
            file.addNumber(IFZS, 4);
        }

        /** How many bytes there are is only known at the end: until then a 0 stands there. */
        void openChunk(int name) {
            file.addNumber(name, 4);
            file.addNumber(0, 4);
            if (count >= 0 && count < names.length) {
                names[count] = name;
                begins[count] = file.size;
            }
        }

        void closeChunk() {
            if (count >= 0 && count < names.length) {
                int n = file.size - begins[count];
                sizes[count] = n;
                file.setNumber(begins[count] - 4, n);
                if ((n & 1) == 1) {
                    file.add(0);
                }
                count++;
            }
        }

        void addStrangers(Strangers strangers) {
            int from = 0;
            for (int i = 0; i < strangers.count && i < MOST_STRANGERS; i++) {
                openChunk(strangers.names[i]);
                file.addPart(strangers.rows, from, strangers.sizes[i]);
                closeChunk();
                from += strangers.sizes[i];
            }
        }

        void endFile() {
            file.setNumber(4, file.size - 8);
        }

        int tellChunk(int i, int what) {
            if (i < 0 || i >= count || i >= names.length) {
                return NONE;
            }
            switch (what) {
                case 0: return names[i];
                case 1: return begins[i];
                default: return sizes[i];
            }
        }
    }

    /** Reads a FILE, which is THE TAPE, into what its caller can still throw away. */
    private static final class Reader {
        private final Bytes file = new Bytes(TAPE_ROOM);
        private boolean headRead = false;
        private boolean memoryRead = false;
        private boolean framesRead = false;
        private int at = 0;

        int readFor(Story story, Session to, Strangers others) {
            to.begin(story);
            others.clear();
            headRead = false;
            memoryRead = false;
            framesRead = false;
            at = FRONT_SIZE;
            int fault = frontFault();
            for (int i = 0; i < MOST_CHUNKS_READ && fault == NO_FAULT && at < file.size; i++) {
                fault = shapeFault();
                if (fault == NO_FAULT) {
                    int n = file.number(at + 4, 4);
                    fault = readContents(n, story, to, others);
                    at += LABEL_SIZE + n + (n & 1);
                }
            }
            boolean whole = headRead && memoryRead && framesRead;
            return fault == NO_FAULT && !whole ? fault(MISSING, file.size) : fault;
        }

        private int frontFault() {
            if (file.size < FRONT_SIZE) {
                return fault(LACKING, file.size);
            }
            if (file.number(0, 4) != FORM) {
                return fault(WRONG_MARK, 0);
            }
            if (file.number(4, 4) != file.size - 8) {
                return fault(WRONG_LENGTH, 4);
            }
            return file.number(8, 4) != IFZS ? fault(WRONG_MARK, 8) : NO_FAULT;
        }

        private int shapeFault() {
            int left = file.size - at - LABEL_SIZE;
            int n = file.number(at + 4, 4);
            // A number with its highest bit set is more than any FILE has, but negative here.
            if (left < 0 || n < 0 || n > left) {
                return fault(LACKING, file.size);
            }
            if ((n & 1) == 0) {
                return NO_FAULT;
            }
            if (n == left) {
                return fault(LACKING, file.size);
            }
            int pad = at + LABEL_SIZE + n;
            return file.at(pad) != 0 ? fault(WRONG_PAD, pad) : NO_FAULT;
        }

        private int readContents(int n, Story story, Session to, Strangers others) {
            int name = file.number(at, 4);
            int start = at + LABEL_SIZE;
            switch (name) {
                case HEAD_NAME:
                    return headRead ? NO_FAULT : readHead(n, story, to);
                case RUNS_NAME:
                case PLAIN_NAME:
                    return memoryRead ? NO_FAULT : readMemory(name, n, to);
                case FRAMES_NAME:
                    if (framesRead) {
                        return NO_FAULT;
                    }
                    framesRead = true;
                    return to.takeFrames(file, start, start + n);
                default:
                    return others.add(name, file, start, n) ? NO_FAULT : fault(TOO_MUCH, at);
            }
        }

        private int readHead(int n, Story story, Session to) {
            if (n != HEAD_CHUNK_SIZE) {
                return fault(WRONG_HEAD, at + 4);
            }
            int start = at + LABEL_SIZE;
            for (int i = 0; i < HEAD_SIZE; i++) {
                if (file.at(start + i) != story.headAt(i)) {
                    return fault(WRONG_HEAD, start + i);
                }
            }
            to.pc = file.number(start + HEAD_SIZE, 3);
            headRead = true;
            return NO_FAULT;
        }

        private int readMemory(int name, int n, Session to) {
            if (!headRead) {
                return fault(AHEAD_OF_HEAD, at);
            }
            memoryRead = true;
            int start = at + LABEL_SIZE;
            if (name == RUNS_NAME) {
                return to.takeRuns(file, start, start + n);
            }
            if (n != to.size) {
                return fault(WRONG_MEMORY, at + 4);
            }
            to.takeMemory(file, start);
            return NO_FAULT;
        }
    }

    /** KEPT SESSIONS, the eldest first, as their B and D: so their row is as long as they weigh. */
    private static final class Kept {
        private final Bytes rows = new Bytes(MOST_BOUND);
        private final int[] runsSizes = new int[MOST_KEPT];
        private final int[] sizes = new int[MOST_KEPT];
        private final int[] pcs = new int[MOST_KEPT];
        private int count = 0;
        private int limit = FIRST_BOUND;

        void clear() {
            rows.clear();
            count = 0;
        }

        void add(Bytes told, int runsSize, int pc) {
            shrink(MOST_KEPT - 1, limit - told.size);
            if (count >= 0 && count < MOST_KEPT) {
                rows.addPart(told, 0, told.size);
                runsSizes[count] = runsSize;
                sizes[count] = told.size;
                pcs[count] = pc;
                count++;
            }
        }

        void shrink(int most, int weight) {
            for (int i = 0; i < MOST_KEPT && (count > most || rows.size > weight); i++) {
                dropEldest();
            }
        }

        private void dropEldest() {
            if (count > 0) {
                rows.dropFirst(sizes[0]);
                count--;
                for (int i = 0; i < count && i < MOST_KEPT - 1; i++) {
                    runsSizes[i] = runsSizes[i + 1];
                    sizes[i] = sizes[i + 1];
                    pcs[i] = pcs[i + 1];
                }
            }
        }

        void takeLatest(Story story, Session to) {
            int last = count - 1;
            if (last >= 0 && last < MOST_KEPT) {
                int start = rows.size - sizes[last];
                int middle = start + runsSizes[last];
                to.begin(story);
                to.takeRuns(rows, start, middle);
                to.takeFrames(rows, middle, rows.size);
                to.pc = pcs[last];
                rows.keepFirst(start);
                count = last;
            }
        }
    }
}
