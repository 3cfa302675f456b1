import java.util.ArrayList;
import java.util.List;

/** DOC.md once more, in the plainest way and without regard to room, to hold ZSaves against. */
final class Model {
    static final int BAD = -1, NONE = -2, FULL = -3, STATE = -4;

    static final class Stop extends RuntimeException {
        final int code;
        final int place;

        Stop(int code, int place) {
            this.code = code;
            this.place = place;
        }
    }

    static final class Fr {
        int back;
        int result;
        int arguments;
        List<Integer> locals = new ArrayList<>();
        List<Integer> stack = new ArrayList<>();

        Fr copy() {
            Fr f = new Fr();
            f.back = back;
            f.result = result;
            f.arguments = arguments;
            f.locals.addAll(locals);
            f.stack.addAll(stack);
            return f;
        }
    }

    static final class Sess {
        int[] memory;
        int pc;
        List<Fr> frames = new ArrayList<>();

        Sess copy() {
            Sess s = new Sess();
            s.memory = memory.clone();
            s.pc = pc;
            for (Fr f : frames) {
                s.frames.add(f.copy());
            }
            return s;
        }

        Fr top() {
            return frames.get(frames.size() - 1);
        }
    }

    record Piece(String name, int begin, List<Integer> bytes) {
    }

    List<Integer> tape = new ArrayList<>();
    List<Integer> out = new ArrayList<>();
    List<Integer> disk = null;
    List<Integer> head = null;
    int[] story = null;
    Sess now = null;
    List<Sess> kept = new ArrayList<>();
    List<Piece> strangers = new ArrayList<>();
    List<Piece> pieces = new ArrayList<>();
    int bound = 1000;
    int cut = NONE;
    int code = 0;
    int place = NONE;

    int feed(int... five) {
        if (tape.size() + 20 > 2000) {
            return FULL;
        }
        for (int v : five) {
            put(tape, Integer.toUnsignedLong(v), 4);
        }
        return tape.size();
    }

    int end(int n) {
        if (n < 0 || n > tape.size()) {
            return BAD;
        }
        int went = tape.size() - n;
        tape = new ArrayList<>(tape.subList(0, n));
        return went;
    }

    int out(int i) {
        return i < 0 || i >= out.size() ? BAD : out.get(i);
    }

    int back() {
        if (out.size() > 2000) {
            return FULL;
        }
        tape = new ArrayList<>(out);
        return tape.size();
    }

    int story() {
        List<Integer> read = tape;
        tape = new ArrayList<>();
        if (read.size() < 11 || read.size() > 1010) {
            return BAD;
        }
        head = new ArrayList<>(read.subList(0, 10));
        story = read.subList(10, read.size()).stream().mapToInt(Integer::intValue).toArray();
        now = fresh();
        strangers.clear();
        kept.clear();
        return story.length;
    }

    private Sess fresh() {
        Sess s = new Sess();
        s.memory = story.clone();
        s.frames.add(new Fr());
        return s;
    }

    int poke(int at, int v) {
        if (story == null) {
            return STATE;
        }
        if (at < 0 || at >= now.memory.length || v < 0 || v > 255) {
            return BAD;
        }
        int was = now.memory[at];
        now.memory[at] = v;
        return was;
    }

    int peek(int at) {
        if (story == null) {
            return STATE;
        }
        return at < 0 || at >= now.memory.length ? BAD : now.memory[at];
    }

    int jump(int v) {
        if (story == null) {
            return STATE;
        }
        if (v < 0 || v > 16777215) {
            return BAD;
        }
        int was = now.pc;
        now.pc = v;
        return was;
    }

    int call(int to, int result, int arguments, int locals) {
        if (story == null) {
            return STATE;
        }
        if (to < 0 || to > 16777215 || result < -2 || result == -1 || result > 255
            || arguments < 0 || arguments > 7 || locals < 0 || locals > 15) {
            return BAD;
        }
        if (now.frames.size() == 20) {
            return FULL;
        }
        Fr f = new Fr();
        f.back = now.pc;
        f.result = result;
        f.arguments = arguments;
        for (int i = 0; i < locals; i++) {
            f.locals.add(0);
        }
        now.frames.add(f);
        now.pc = to;
        return now.frames.size();
    }

    int leave() {
        if (story == null) {
            return STATE;
        }
        if (now.frames.size() == 1) {
            return NONE;
        }
        now.pc = now.frames.remove(now.frames.size() - 1).back;
        return now.pc;
    }

    int local(int i, int v) {
        if (story == null) {
            return STATE;
        }
        if (i < 0 || i >= now.top().locals.size() || v < 0 || v > 65535) {
            return BAD;
        }
        return now.top().locals.set(i, v);
    }

    int push(int v) {
        if (story == null) {
            return STATE;
        }
        if (v < 0 || v > 65535) {
            return BAD;
        }
        if (now.top().stack.size() == 40) {
            return FULL;
        }
        now.top().stack.add(v);
        return now.top().stack.size();
    }

    int pop() {
        if (story == null) {
            return STATE;
        }
        List<Integer> stack = now.top().stack;
        return stack.isEmpty() ? NONE : stack.remove(stack.size() - 1);
    }

    int frame(int i, int what) {
        if (story == null) {
            return STATE;
        }
        if (i < 0 || i >= now.frames.size()) {
            return NONE;
        }
        Fr f = now.frames.get(i);
        List<Integer> words = new ArrayList<>(f.locals);
        words.addAll(f.stack);
        if (what >= 10) {
            return what - 10 < words.size() ? words.get(what - 10) : NONE;
        }
        int[] told = {f.back, f.result, f.arguments, f.locals.size(), f.stack.size()};
        return what >= 0 && what < told.length ? told[what] : BAD;
    }

    long print() {
        if (story == null) {
            return 0;
        }
        List<Integer> all = new ArrayList<>();
        for (int b : now.memory) {
            all.add(b);
        }
        put(all, now.pc, 3);
        all.addAll(frameBytes(now));
        long h = -3750763034362895579L;
        for (int b : all) {
            h = (h ^ b) * 1099511628211L;
        }
        return h;
    }

    private List<Integer> runBytes(Sess s) {
        List<Integer> all = new ArrayList<>();
        int last = story.length;
        while (last > 0 && s.memory[last - 1] == story[last - 1]) {
            last--;
        }
        int i = 0;
        while (i < last) {
            if (s.memory[i] != story[i]) {
                all.add(s.memory[i] ^ story[i]);
                i++;
                continue;
            }
            int n = 0;
            while (n < 256 && s.memory[i + n] == story[i + n]) {
                n++;
            }
            all.add(0);
            all.add(n - 1);
            i += n;
        }
        return all;
    }

    private static List<Integer> frameBytes(Sess s) {
        int[] marks = {0, 1, 3, 7, 15, 31, 63, 127};
        List<Integer> all = new ArrayList<>();
        for (Fr f : s.frames) {
            put(all, f.back, 3);
            all.add(f.locals.size() + (f.result == NONE ? 16 : 0));
            all.add(f.result == NONE ? 0 : f.result);
            all.add(marks[f.arguments]);
            put(all, f.stack.size(), 2);
            for (int w : f.locals) {
                put(all, w, 2);
            }
            for (int w : f.stack) {
                put(all, w, 2);
            }
        }
        return all;
    }

    static void put(List<Integer> to, long v, int n) {
        for (int i = n - 1; i >= 0; i--) {
            to.add((int) (v >> 8 * i & 255));
        }
    }

    static void put(List<Integer> to, String text) {
        for (char c : text.toCharArray()) {
            to.add((int) c);
        }
    }

    int save(boolean plain) {
        if (story == null) {
            return STATE;
        }
        List<Piece> all = new ArrayList<>();
        List<Integer> a = new ArrayList<>(head);
        put(a, now.pc, 3);
        all.add(new Piece("IFhd", 0, a));
        if (plain) {
            List<Integer> c = new ArrayList<>();
            for (int b : now.memory) {
                c.add(b);
            }
            all.add(new Piece("UMem", 0, c));
        } else {
            all.add(new Piece("CMem", 0, runBytes(now)));
        }
        all.add(new Piece("Stks", 0, frameBytes(now)));
        all.addAll(strangers);
        pieces.clear();
        List<Integer> body = new ArrayList<>();
        put(body, "IFZS");
        for (Piece p : all) {
            put(body, p.name);
            put(body, p.bytes.size(), 4);
            pieces.add(new Piece(p.name, body.size() + 8, p.bytes));
            body.addAll(p.bytes);
            if (body.size() % 2 == 1) {
                body.add(0);
            }
        }
        out = new ArrayList<>();
        put(out, "FORM");
        put(out, body.size(), 4);
        out.addAll(body);
        return out.size();
    }

    int restore() {
        List<Integer> read = tape;
        tape = new ArrayList<>();
        if (story == null) {
            return STATE;
        }
        try {
            restored(read);
        } catch (Stop s) {
            code = s.code;
            place = s.place;
            return -10 - code;
        }
        code = 0;
        place = NONE;
        return 1;
    }

    private static long get(List<Integer> from, int at, int n) {
        long v = 0;
        for (int i = 0; i < n; i++) {
            v = v * 256 + from.get(at + i);
        }
        return v;
    }

    private static String text(List<Integer> from, int at) {
        StringBuilder b = new StringBuilder();
        for (int i = 0; i < 4; i++) {
            b.append((char) (int) from.get(at + i));
        }
        return b.toString();
    }

    private static void need(boolean so, int code, int place) {
        if (!so) {
            throw new Stop(code, place);
        }
    }

    private void restored(List<Integer> file) {
        int size = file.size();
        need(size >= 12, 1, size);
        need(text(file, 0).equals("FORM"), 2, 0);
        need(get(file, 4, 4) == size - 8, 3, 4);
        need(text(file, 8).equals("IFZS"), 2, 8);
        Sess s = fresh();
        List<Piece> others = new ArrayList<>();
        boolean a = false;
        boolean m = false;
        boolean d = false;
        int at = 12;
        while (at < size) {
            need(at + 8 <= size, 1, size);
            String name = text(file, at);
            long told = get(file, at + 4, 4);
            need(at + 8 + told + told % 2 <= size, 1, size);
            int n = (int) told;
            int end = at + 8 + n;
            need(n % 2 == 0 || file.get(end) == 0, 4, end);
            List<Integer> bytes = file.subList(at + 8, end);
            boolean memory = name.equals("CMem") || name.equals("UMem");
            if (memory && !m) {
                need(a, 5, at);
                m = true;
                readMemory(s, name, bytes, at);
            } else if (name.equals("IFhd") && !a) {
                a = true;
                need(n == 13, 6, at + 4);
                for (int i = 0; i < 10; i++) {
                    need(bytes.get(i).equals(head.get(i)), 6, at + 8 + i);
                }
                s.pc = (int) get(bytes, 10, 3);
            } else if (name.equals("Stks") && !d) {
                d = true;
                readFrames(s, bytes, at + 8);
            } else if (!memory && !name.equals("IFhd") && !name.equals("Stks")) {
                need(others.size() < 8 && n <= 200, 9, at);
                others.add(new Piece(name, 0, new ArrayList<>(bytes)));
            }
            at = end + n % 2;
        }
        need(a && m && d, 10, size);
        become(s);
        strangers = others;
    }

    private void readMemory(Sess s, String name, List<Integer> bytes, int at) {
        if (name.equals("UMem")) {
            need(bytes.size() == story.length, 7, at + 4);
            for (int i = 0; i < story.length; i++) {
                s.memory[i] = bytes.get(i);
            }
            return;
        }
        int cell = 0;
        int i = 0;
        while (i < bytes.size()) {
            if (bytes.get(i) != 0) {
                need(cell < story.length, 7, at + 8 + i);
                s.memory[cell] = story[cell] ^ bytes.get(i);
                cell++;
                i++;
            } else {
                need(i + 1 < bytes.size(), 7, at + 8 + i + 1);
                cell += bytes.get(i + 1) + 1;
                need(cell <= story.length, 7, at + 8 + i);
                i += 2;
            }
        }
    }

    private static void readFrames(Sess s, List<Integer> bytes, int start) {
        s.frames.clear();
        int end = bytes.size();
        int i = 0;
        while (s.frames.isEmpty() || i < end) {
            boolean first = s.frames.isEmpty();
            need(s.frames.size() < 20, 9, start + i);
            need(end - i >= 8, 8, start + end);
            for (int k = 0; k < 6 && first; k++) {
                need(bytes.get(i + k) == 0, 8, start + i + k);
            }
            int shape = bytes.get(i + 3);
            int marks = bytes.get(i + 5);
            need(shape <= 31, 8, start + i + 3);
            need(shape < 16 || bytes.get(i + 4) == 0, 8, start + i + 4);
            int arguments = List.of(0, 1, 3, 7, 15, 31, 63, 127).indexOf(marks);
            need(arguments >= 0, 8, start + i + 5);
            int depth = (int) get(bytes, i + 6, 2);
            need(depth <= 40, 9, start + i + 6);
            int words = shape % 16 + depth;
            need(end - i - 8 >= 2 * words, 8, start + end);
            Fr f = new Fr();
            f.back = (int) get(bytes, i, 3);
            f.result = shape >= 16 ? NONE : bytes.get(i + 4);
            f.arguments = arguments;
            for (int k = 0; k < words; k++) {
                (k < shape % 16 ? f.locals : f.stack).add((int) get(bytes, i + 8 + 2 * k, 2));
            }
            s.frames.add(f);
            i += 8 + 2 * words;
        }
    }

    private void become(Sess s) {
        if (s.memory.length > 17) {
            s.memory[17] = s.memory[17] / 4 * 4 + now.memory[17] % 4;
        }
        now = s;
    }

    int why(int what) {
        return what == 0 ? code : what == 1 ? place : BAD;
    }

    int chunk(int i, int what) {
        if (what < 0 || what > 2) {
            return BAD;
        }
        if (i < 0 || i >= pieces.size()) {
            return NONE;
        }
        Piece p = pieces.get(i);
        List<Integer> name = new ArrayList<>();
        put(name, p.name);
        return what == 0 ? (int) get(name, 0, 4) : what == 1 ? p.begin : p.bytes.size();
    }

    int write() {
        boolean isCut = cut >= 0 && out.size() > cut;
        cut = NONE;
        if (!isCut) {
            disk = new ArrayList<>(out);
        }
        return isCut ? 0 : 1;
    }

    int cut(int n) {
        if (n < 0 && n != NONE) {
            return BAD;
        }
        cut = n;
        return 1;
    }

    int load() {
        if (disk == null) {
            return NONE;
        }
        if (disk.size() > 2000) {
            return FULL;
        }
        tape = new ArrayList<>(disk);
        return tape.size();
    }

    private int weight(Sess s) {
        return runBytes(s).size() + frameBytes(s).size();
    }

    private int weightOfKept() {
        return kept.stream().mapToInt(this::weight).sum();
    }

    private void shrink() {
        while (kept.size() > 8 || weightOfKept() > bound) {
            kept.remove(0);
        }
    }

    int keep() {
        if (story == null) {
            return STATE;
        }
        if (weight(now) > bound) {
            return FULL;
        }
        kept.add(now.copy());
        shrink();
        return kept.size();
    }

    int undo() {
        if (story == null) {
            return STATE;
        }
        if (kept.isEmpty()) {
            return NONE;
        }
        become(kept.remove(kept.size() - 1));
        return kept.size();
    }

    int bound(int n) {
        if (n < 0 || n > 10000) {
            return BAD;
        }
        int was = bound;
        bound = n;
        shrink();
        return was;
    }

    int restart() {
        if (story == null) {
            return STATE;
        }
        become(fresh());
        return 1;
    }

    int told(int what) {
        switch (what) {
            case 0: return story == null ? 0 : story.length;
            case 1: return story == null ? 0 : now.pc;
            case 2: return story == null ? 0 : now.frames.size();
            case 3: return kept.size();
            case 4: return weightOfKept();
            case 5: return story == null ? 0 : weight(now);
            case 6: return strangers.size();
            case 7: return tape.size();
            case 8: return out.size();
            case 9: return disk == null ? NONE : disk.size();
            default: return BAD;
        }
    }
}
