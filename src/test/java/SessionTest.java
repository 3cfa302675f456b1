/** Promises 7 to 16: the session. */
public final class SessionTest {
    private static final int BAD = ZSaves.BAD, NONE = ZSaves.NONE, FULL = ZSaves.FULL;
    private static final int LOWEST = Integer.MIN_VALUE, HIGHEST = Integer.MAX_VALUE;
    private static final int MOST_PC = 16777215;
    private static final Cases CASES = new Cases();

    public static void main(String[] args) {
        poke();
        pokeRefused();
        peek();
        jump();
        call();
        callAtItsEdges();
        callRefused();
        callFull();
        leave();
        local();
        localRefused();
        push();
        pushRefused();
        pop();
        frame();
        frameRefused();
        print();
        CASES.finish();
    }

    private static void three(Counted x) {
        Rows.story(x, 21, 22, 23);
    }

    private static void thousand(Counted x) {
        Rows.story(x, Rows.filled(1000, 5));
    }

    private static void poke() {
        CASES.answers("7 what it was", SessionTest::three,
            x -> new long[] {x.poke(1, 50), x.poke(1, 60), x.peek(1)}, 22, 50, 60);
        CASES.answers("7 v 0", SessionTest::three, x -> new long[] {x.poke(1, 0), x.peek(1)}, 22, 0);
        CASES.answers("7 v 255", SessionTest::three, x -> new long[] {x.poke(1, 255), x.peek(1)}, 22, 255);
        CASES.answers("7 the first byte alone", SessionTest::three,
            x -> new long[] {x.poke(0, 1), x.peek(0), x.peek(1), x.peek(2)}, 21, 1, 22, 23);
        CASES.answers("7 the last byte alone", SessionTest::three,
            x -> new long[] {x.poke(2, 1), x.peek(0), x.peek(1), x.peek(2)}, 23, 21, 22, 1);
        CASES.answers("7 a STORY of one byte", x -> Rows.story(x, 9), x -> new long[] {x.poke(0, 8), x.poke(1, 8)}, 9, BAD);
        CASES.answers("7 the thousandth byte", SessionTest::thousand,
            x -> new long[] {x.poke(999, 8), x.peek(999), x.peek(998)}, 5, 8, 5);
        CASES.answers("7 THE BITS too", x -> Rows.story(x, Rows.filled(18, 3)),
            x -> new long[] {x.poke(17, 252), x.peek(17)}, 3, 252);
        CASES.answers("7 the STORY's own byte stays", SessionTest::three,
            x -> new long[] {x.poke(0, 99), x.restart(), x.peek(0)}, 21, 1, 21);
    }

    private static void pokeRefused() {
        CASES.refused("7 BAD: at -1", Cases::rich, x -> x.poke(-1, 1), BAD);
        CASES.refused("7 BAD: at NONE", Cases::rich, x -> x.poke(NONE, 1), BAD);
        CASES.refused("7 BAD: at as many as there are", Cases::rich, x -> x.poke(20, 1), BAD);
        CASES.refused("7 BAD: at 1,000", SessionTest::thousand, x -> x.poke(1000, 1), BAD);
        CASES.refused("7 BAD: at the lowest number", Cases::rich, x -> x.poke(LOWEST, 1), BAD);
        CASES.refused("7 BAD: at the highest number", Cases::rich, x -> x.poke(HIGHEST, 1), BAD);
        CASES.refused("7 BAD: v -1", Cases::rich, x -> x.poke(0, -1), BAD);
        CASES.refused("7 BAD: v 256", Cases::rich, x -> x.poke(0, 256), BAD);
        CASES.refused("7 BAD: v the lowest number", Cases::rich, x -> x.poke(0, LOWEST), BAD);
        CASES.refused("7 BAD: v the highest number", Cases::rich, x -> x.poke(0, HIGHEST), BAD);
        CASES.refused("7 BAD: both", Cases::rich, x -> x.poke(20, 256), BAD);
    }

    private static void peek() {
        CASES.answers("8 the first and the last", SessionTest::three, x -> new long[] {x.peek(0), x.peek(2)}, 21, 23);
        CASES.answers("8 the thousandth", SessionTest::thousand, x -> new long[] {x.peek(999)}, 5);
        CASES.refused("8 BAD: at -1", Cases::rich, x -> x.peek(-1), BAD);
        CASES.refused("8 BAD: at as many as there are", Cases::rich, x -> x.peek(20), BAD);
        CASES.refused("8 BAD: at 1,000", SessionTest::thousand, x -> x.peek(1000), BAD);
        CASES.refused("8 BAD: at the lowest number", Cases::rich, x -> x.peek(LOWEST), BAD);
        CASES.refused("8 BAD: at the highest number", Cases::rich, x -> x.peek(HIGHEST), BAD);
        CASES.refused("8 it changes nothing", Cases::rich, x -> x.peek(1), 77);
    }

    private static void jump() {
        CASES.answers("9 what it was", SessionTest::three, x -> new long[] {x.jump(7), x.jump(8), x.told(1)}, 0, 7, 8);
        CASES.answers("9 the largest PC", SessionTest::three, x -> new long[] {x.jump(MOST_PC), x.told(1)}, 0, MOST_PC);
        CASES.answers("9 back to 0", SessionTest::three,
            x -> new long[] {x.jump(MOST_PC), x.jump(0), x.told(1)}, 0, MOST_PC, 0);
        CASES.refused("9 BAD: below 0", Cases::rich, x -> x.jump(-1), BAD);
        CASES.refused("9 BAD: one too large", Cases::rich, x -> x.jump(MOST_PC + 1), BAD);
        CASES.refused("9 BAD: the lowest number", Cases::rich, x -> x.jump(LOWEST), BAD);
        CASES.refused("9 BAD: the highest number", Cases::rich, x -> x.jump(HIGHEST), BAD);
    }

    private static void call() {
        CASES.answers("10 a FRAME more", x -> {
            three(x);
            x.jump(1000);
        }, x -> new long[] {x.call(2000, 3, 4, 5), x.told(2), x.told(1),
            x.frame(1, 0), x.frame(1, 1), x.frame(1, 2), x.frame(1, 3), x.frame(1, 4)}, 2, 2, 2000, 1000, 3, 4, 5, 0);
        CASES.answers("10 the FRAME before stays", x -> {
            three(x);
            x.call(1, 2, 3, 1);
            x.local(0, 9);
            x.push(8);
        }, x -> new long[] {x.call(4, 5, 6, 7), x.frame(1, 0), x.frame(1, 1), x.frame(1, 2), x.frame(1, 3), x.frame(1, 4),
            x.frame(1, 10), x.frame(1, 11)}, 3, 0, 2, 3, 1, 1, 9, 8);
        CASES.answers("10 LOCALS are 0 where others have been", x -> {
            three(x);
            x.call(0, 0, 0, 15);
            for (int i = 0; i < 15; i++) {
                x.local(i, 65535);
            }
            x.leave();
            x.call(0, 0, 0, 15);
        }, x -> {
            long[] locals = new long[15];
            for (int i = 0; i < 15; i++) {
                locals[i] = x.frame(1, 10 + i);
            }
            return locals;
        }, new long[15]);
        CASES.answers("10 LOCALS are 0 where a STACK has been", x -> {
            three(x);
            x.call(0, 0, 0, 0);
            x.push(7);
            x.push(8);
            x.leave();
        }, x -> new long[] {x.call(0, 0, 0, 2), x.frame(1, 10), x.frame(1, 11), x.frame(1, 12)}, 2, 0, 0, NONE);
        CASES.answers("10 an empty STACK where another has been", x -> {
            three(x);
            x.call(0, 0, 0, 0);
            x.push(7);
            x.leave();
        }, x -> new long[] {x.call(0, 0, 0, 0), x.frame(1, 4), x.pop()}, 2, 0, NONE);
    }

    private static void callAtItsEdges() {
        CASES.answers("10 to 0", x -> {
            three(x);
            x.jump(MOST_PC);
        }, x -> new long[] {x.call(0, 1, 1, 1), x.told(1), x.frame(1, 0)}, 2, 0, MOST_PC);
        CASES.answers("10 to the largest PC", SessionTest::three,
            x -> new long[] {x.call(MOST_PC, 1, 1, 1), x.told(1), x.frame(1, 0)}, 2, MOST_PC, 0);
        CASES.answers("10 RESULT 0", SessionTest::three, x -> new long[] {x.call(1, 0, 1, 1), x.frame(1, 1)}, 2, 0);
        CASES.answers("10 RESULT 255", SessionTest::three, x -> new long[] {x.call(1, 255, 1, 1), x.frame(1, 1)}, 2, 255);
        CASES.answers("10 RESULT NONE", SessionTest::three, x -> new long[] {x.call(1, NONE, 1, 1), x.frame(1, 1)}, 2, NONE);
        CASES.answers("10 no ARGUMENTS", SessionTest::three, x -> new long[] {x.call(1, 1, 0, 1), x.frame(1, 2)}, 2, 0);
        CASES.answers("10 seven ARGUMENTS", SessionTest::three, x -> new long[] {x.call(1, 1, 7, 1), x.frame(1, 2)}, 2, 7);
        CASES.answers("10 no LOCALS", SessionTest::three,
            x -> new long[] {x.call(1, 1, 1, 0), x.frame(1, 3), x.frame(1, 10)}, 2, 0, NONE);
        CASES.answers("10 fifteen LOCALS", SessionTest::three,
            x -> new long[] {x.call(1, 1, 1, 15), x.frame(1, 3), x.frame(1, 24), x.frame(1, 25)}, 2, 15, 0, NONE);
        CASES.answers("10 more ARGUMENTS than LOCALS", SessionTest::three,
            x -> new long[] {x.call(1, 1, 7, 0), x.frame(1, 2), x.frame(1, 3)}, 2, 7, 0);
    }

    private static void callRefused() {
        CASES.refused("10 BAD: to -1", Cases::rich, x -> x.call(-1, 0, 0, 0), BAD);
        CASES.refused("10 BAD: to one too large", Cases::rich, x -> x.call(MOST_PC + 1, 0, 0, 0), BAD);
        CASES.refused("10 BAD: to the lowest number", Cases::rich, x -> x.call(LOWEST, 0, 0, 0), BAD);
        CASES.refused("10 BAD: to the highest number", Cases::rich, x -> x.call(HIGHEST, 0, 0, 0), BAD);
        CASES.refused("10 BAD: RESULT -1", Cases::rich, x -> x.call(0, -1, 0, 0), BAD);
        CASES.refused("10 BAD: RESULT -3", Cases::rich, x -> x.call(0, -3, 0, 0), BAD);
        CASES.refused("10 BAD: RESULT 256", Cases::rich, x -> x.call(0, 256, 0, 0), BAD);
        CASES.refused("10 BAD: RESULT the lowest number", Cases::rich, x -> x.call(0, LOWEST, 0, 0), BAD);
        CASES.refused("10 BAD: RESULT the highest number", Cases::rich, x -> x.call(0, HIGHEST, 0, 0), BAD);
        CASES.refused("10 BAD: ARGUMENTS -1", Cases::rich, x -> x.call(0, 0, -1, 0), BAD);
        CASES.refused("10 BAD: ARGUMENTS NONE", Cases::rich, x -> x.call(0, 0, NONE, 0), BAD);
        CASES.refused("10 BAD: ARGUMENTS 8", Cases::rich, x -> x.call(0, 0, 8, 0), BAD);
        CASES.refused("10 BAD: ARGUMENTS the highest number", Cases::rich, x -> x.call(0, 0, HIGHEST, 0), BAD);
        CASES.refused("10 BAD: LOCALS -1", Cases::rich, x -> x.call(0, 0, 0, -1), BAD);
        CASES.refused("10 BAD: LOCALS NONE", Cases::rich, x -> x.call(0, 0, 0, NONE), BAD);
        CASES.refused("10 BAD: LOCALS 16", Cases::rich, x -> x.call(0, 0, 0, 16), BAD);
        CASES.refused("10 BAD: LOCALS the highest number", Cases::rich, x -> x.call(0, 0, 0, HIGHEST), BAD);
    }

    /** Twenty FRAMES, each called from its own number. */
    private static void twenty(Counted x) {
        three(x);
        for (int i = 1; i < 20; i++) {
            x.jump(i);
            x.call(100, i, 0, 0);
        }
    }

    private static void callFull() {
        CASES.answers("10 the twentieth FRAME", x -> {
            twenty(x);
            x.leave();
        }, x -> new long[] {x.told(2), x.call(1, 2, 3, 4), x.told(2), x.frame(19, 1)}, 19, 20, 20, 2);
        CASES.refused("10 FULL: the 21st FRAME", SessionTest::twenty, x -> x.call(1, 2, 3, 4), FULL);
        CASES.refused("10 FULL: the 21st, with everything at its least", SessionTest::twenty, x -> x.call(0, 0, 0, 0), FULL);
        CASES.refused("10 BAD ahead of FULL: to", SessionTest::twenty, x -> x.call(-1, 0, 0, 0), BAD);
        CASES.refused("10 BAD ahead of FULL: RESULT", SessionTest::twenty, x -> x.call(0, 256, 0, 0), BAD);
        CASES.refused("10 BAD ahead of FULL: ARGUMENTS", SessionTest::twenty, x -> x.call(0, 0, 8, 0), BAD);
        CASES.refused("10 BAD ahead of FULL: LOCALS", SessionTest::twenty, x -> x.call(0, 0, 0, 16), BAD);
        CASES.answers("10 room again, when one went", SessionTest::twenty,
            x -> new long[] {x.leave(), x.call(1, 2, 3, 4)}, 19, 20);
    }

    private static void leave() {
        CASES.answers("11 the PC becomes its BACK", x -> {
            three(x);
            x.jump(1000);
            x.call(2000, 1, 1, 1);
            x.jump(3000);
        }, x -> new long[] {x.leave(), x.told(1), x.told(2)}, 1000, 1000, 1);
        CASES.answers("11 BACK 0", x -> {
            three(x);
            x.call(2000, 1, 1, 1);
        }, x -> new long[] {x.leave(), x.told(1)}, 0, 0);
        CASES.answers("11 BACK the largest PC", x -> {
            three(x);
            x.jump(MOST_PC);
            x.call(0, 1, 1, 1);
        }, x -> new long[] {x.leave(), x.told(1)}, MOST_PC, MOST_PC);
        CASES.answers("11 from twenty FRAMES down to the first", SessionTest::twenty, x -> {
            long[] backs = new long[20];
            for (int i = 0; i < 20; i++) {
                backs[i] = x.leave();
            }
            return backs;
        }, 19, 18, 17, 16, 15, 14, 13, 12, 11, 10, 9, 8, 7, 6, 5, 4, 3, 2, 1, NONE);
        CASES.answers("11 the one before has its LOCALS and STACK", x -> {
            three(x);
            x.call(0, 0, 0, 1);
            x.local(0, 5);
            x.push(6);
            x.call(0, 0, 0, 1);
            x.local(0, 7);
            x.push(8);
        }, x -> new long[] {x.leave(), x.frame(1, 10), x.pop(), x.pop()}, 0, 5, 6, NONE);
        CASES.refused("11 NONE: the first one", x -> {
            three(x);
            x.jump(77);
            x.push(5);
        }, Counted::leave, NONE);
        CASES.refused("11 NONE: behind the last that can go", x -> {
            Cases.rich(x);
            x.leave();
        }, Counted::leave, NONE);
    }

    private static void withLocals(Counted x) {
        three(x);
        x.call(0, 0, 0, 15);
    }

    private static void local() {
        CASES.answers("12 what it was", SessionTest::withLocals,
            x -> new long[] {x.local(3, 7), x.local(3, 8), x.frame(1, 13)}, 0, 7, 8);
        CASES.answers("12 the first alone", SessionTest::withLocals,
            x -> new long[] {x.local(0, 7), x.frame(1, 10), x.frame(1, 11)}, 0, 7, 0);
        CASES.answers("12 the fifteenth alone", SessionTest::withLocals,
            x -> new long[] {x.local(14, 7), x.frame(1, 24), x.frame(1, 23)}, 0, 7, 0);
        CASES.answers("12 v 65,535, then 0", SessionTest::withLocals,
            x -> new long[] {x.local(1, 65535), x.local(1, 0), x.frame(1, 11)}, 0, 65535, 0);
        CASES.answers("12 of the newest alone", x -> {
            withLocals(x);
            x.call(0, 0, 0, 15);
        }, x -> new long[] {x.local(2, 9), x.frame(2, 12), x.frame(1, 12)}, 0, 9, 0);
    }

    private static void localRefused() {
        CASES.refused("12 BAD: the first FRAME has none", SessionTest::three, x -> x.local(0, 1), BAD);
        CASES.refused("12 BAD: a FRAME without LOCALS", x -> {
            three(x);
            x.call(0, 0, 0, 0);
        }, x -> x.local(0, 1), BAD);
        CASES.refused("12 BAD: i -1", Cases::rich, x -> x.local(-1, 1), BAD);
        CASES.refused("12 BAD: i as many as there are", Cases::rich, x -> x.local(5, 1), BAD);
        CASES.refused("12 BAD: i 15", SessionTest::withLocals, x -> x.local(15, 1), BAD);
        CASES.refused("12 BAD: i the lowest number", Cases::rich, x -> x.local(LOWEST, 1), BAD);
        CASES.refused("12 BAD: i the highest number", Cases::rich, x -> x.local(HIGHEST, 1), BAD);
        CASES.refused("12 BAD: v -1", Cases::rich, x -> x.local(0, -1), BAD);
        CASES.refused("12 BAD: v 65,536", Cases::rich, x -> x.local(0, 65536), BAD);
        CASES.refused("12 BAD: v the lowest number", Cases::rich, x -> x.local(0, LOWEST), BAD);
        CASES.refused("12 BAD: v the highest number", Cases::rich, x -> x.local(0, HIGHEST), BAD);
        CASES.refused("12 BAD: a WORD of the STACK is no LOCAL", x -> {
            three(x);
            x.push(9);
        }, x -> x.local(0, 1), BAD);
    }

    private static void pushed(Counted x, int n) {
        withLocals(x);
        for (int i = 1; i <= n; i++) {
            x.push(i);
        }
    }

    private static void push() {
        CASES.answers("13 how many it has", SessionTest::withLocals,
            x -> new long[] {x.push(7), x.push(8), x.frame(1, 4), x.frame(1, 25), x.frame(1, 26)}, 1, 2, 2, 7, 8);
        CASES.answers("13 0 and 65,535", SessionTest::three,
            x -> new long[] {x.push(0), x.push(65535), x.frame(0, 10), x.frame(0, 11)}, 1, 2, 0, 65535);
        CASES.answers("13 the fortieth", x -> pushed(x, 39),
            x -> new long[] {x.push(65535), x.frame(1, 4), x.frame(1, 64), x.frame(1, 63)}, 40, 40, 65535, 39);
        CASES.answers("13 of the newest alone", x -> {
            pushed(x, 40);
            x.call(0, 0, 0, 0);
        }, x -> new long[] {x.push(1), x.frame(1, 4)}, 1, 40);
        CASES.answers("13 LOCALS stay beside a full STACK", x -> pushed(x, 40),
            x -> new long[] {x.frame(1, 10), x.frame(1, 24), x.frame(1, 25)}, 0, 0, 1);
        CASES.answers("13 room again, when one went", x -> pushed(x, 40), x -> new long[] {x.pop(), x.push(5)}, 40, 40);
    }

    private static void pushRefused() {
        CASES.refused("13 BAD: -1", Cases::rich, x -> x.push(-1), BAD);
        CASES.refused("13 BAD: NONE", Cases::rich, x -> x.push(NONE), BAD);
        CASES.refused("13 BAD: 65,536", Cases::rich, x -> x.push(65536), BAD);
        CASES.refused("13 BAD: the lowest number", Cases::rich, x -> x.push(LOWEST), BAD);
        CASES.refused("13 BAD: the highest number", Cases::rich, x -> x.push(HIGHEST), BAD);
        CASES.refused("13 FULL: the 41st", x -> pushed(x, 40), x -> x.push(1), FULL);
        CASES.refused("13 FULL: the 41st, without LOCALS", x -> {
            three(x);
            for (int i = 0; i < 40; i++) {
                x.push(i);
            }
        }, x -> x.push(1), FULL);
        CASES.refused("13 BAD ahead of FULL: -1", x -> pushed(x, 40), x -> x.push(-1), BAD);
        CASES.refused("13 BAD ahead of FULL: 65,536", x -> pushed(x, 40), x -> x.push(65536), BAD);
    }

    private static void pop() {
        CASES.answers("14 the one that came last", x -> pushed(x, 3),
            x -> new long[] {x.pop(), x.frame(1, 4), x.pop(), x.pop(), x.frame(1, 4)}, 3, 2, 2, 1, 0);
        CASES.answers("14 a WORD 0 is no lack", SessionTest::three, x -> new long[] {x.push(0), x.pop(), x.pop()}, 1, 0, NONE);
        CASES.answers("14 65,535", SessionTest::three, x -> new long[] {x.push(65535), x.pop()}, 1, 65535);
        CASES.answers("14 of a full STACK", x -> pushed(x, 40), x -> new long[] {x.pop(), x.frame(1, 4), x.pop()}, 40, 39, 39);
        CASES.refused("14 NONE: an empty STACK", SessionTest::three, Counted::pop, NONE);
        CASES.refused("14 NONE: LOCALS are no STACK", x -> {
            withLocals(x);
            x.local(14, 9);
        }, Counted::pop, NONE);
        CASES.refused("14 NONE: the STACK of the FRAME before is not the newest's", x -> {
            pushed(x, 3);
            x.call(0, 0, 0, 0);
        }, Counted::pop, NONE);
        CASES.refused("14 NONE: behind the last", x -> {
            Cases.rich(x);
            x.pop();
        }, Counted::pop, NONE);
    }

    /** FRAME 1: LOCALS 11 and 12, STACK 13 and 14. */
    private static void framed(Counted x) {
        three(x);
        x.push(5);
        x.jump(70);
        x.call(80, 90, 3, 2);
        x.local(0, 11);
        x.local(1, 12);
        x.push(13);
        x.push(14);
    }

    private static void frame() {
        CASES.answers("15 what is told of a FRAME", SessionTest::framed,
            x -> new long[] {x.frame(1, 0), x.frame(1, 1), x.frame(1, 2), x.frame(1, 3), x.frame(1, 4)}, 70, 90, 3, 2, 2);
        CASES.answers("15 LOCALS, the STACK behind them", SessionTest::framed,
            x -> new long[] {x.frame(1, 10), x.frame(1, 11), x.frame(1, 12), x.frame(1, 13)}, 11, 12, 13, 14);
        CASES.answers("15 of the first FRAME", SessionTest::framed, x -> new long[] {x.frame(0, 4), x.frame(0, 10)}, 1, 5);
        CASES.answers("15 of the twentieth FRAME", SessionTest::twenty, x -> new long[] {x.frame(19, 0), x.frame(19, 1)}, 19, 19);
        CASES.answers("15 the last WORD that can be", x -> pushed(x, 40), x -> new long[] {x.frame(1, 64)}, 40);
        CASES.answers("15 a RESULT that is thrown away", x -> {
            three(x);
            x.call(1, NONE, 1, 1);
        }, x -> new long[] {x.frame(1, 1)}, NONE);
    }

    private static void frameRefused() {
        CASES.refused("15 NONE: FRAME -1", SessionTest::framed, x -> x.frame(-1, 0), NONE);
        CASES.refused("15 NONE: as many as there are", SessionTest::framed, x -> x.frame(2, 0), NONE);
        CASES.refused("15 NONE: the 21st", SessionTest::twenty, x -> x.frame(20, 0), NONE);
        CASES.refused("15 NONE: FRAME the lowest number", SessionTest::framed, x -> x.frame(LOWEST, 0), NONE);
        CASES.refused("15 NONE: FRAME the highest number", SessionTest::framed, x -> x.frame(HIGHEST, 0), NONE);
        CASES.refused("15 NONE: a FRAME that went", x -> {
            framed(x);
            x.leave();
        }, x -> x.frame(1, 0), NONE);
        CASES.refused("15 NONE: no WORD at all", SessionTest::three, x -> x.frame(0, 10), NONE);
        CASES.refused("15 NONE: behind the last WORD", SessionTest::framed, x -> x.frame(1, 14), NONE);
        CASES.refused("15 NONE: behind the last that can be", x -> pushed(x, 40), x -> x.frame(1, 65), NONE);
        CASES.refused("15 NONE: WORD the highest number", SessionTest::framed, x -> x.frame(1, HIGHEST), NONE);
        CASES.refused("15 NONE: a WORD that went", x -> {
            framed(x);
            x.pop();
        }, x -> x.frame(1, 13), NONE);
        CASES.refused("15 BAD: what -1", SessionTest::framed, x -> x.frame(1, -1), BAD);
        CASES.refused("15 BAD: what 5", SessionTest::framed, x -> x.frame(1, 5), BAD);
        CASES.refused("15 BAD: what 9", SessionTest::framed, x -> x.frame(1, 9), BAD);
        CASES.refused("15 BAD: what the lowest number", SessionTest::framed, x -> x.frame(1, LOWEST), BAD);
        CASES.refused("15 NONE ahead of BAD", SessionTest::framed, x -> x.frame(2, 5), NONE);
        CASES.refused("15 NONE ahead of BAD: FRAME -1", SessionTest::framed, x -> x.frame(-1, -1), NONE);
    }

    private static long printOf(int... bytes) {
        long h = -3750763034362895579L;
        for (int b : bytes) {
            h = (h ^ b) * 1099511628211L;
        }
        return h;
    }

    private static void print() {
        CASES.answers("16 as it begins", SessionTest::three, x -> new long[] {x.print()},
            printOf(21, 22, 23, 0, 0, 0, 0, 0, 0, 0, 0, 0, 0, 0));
        CASES.answers("16 a STORY of one byte", x -> Rows.story(x, 255), x -> new long[] {x.print()},
            printOf(255, 0, 0, 0, 0, 0, 0, 0, 0, 0, 0, 0));
        CASES.answers("16 a thousand bytes", SessionTest::thousand, x -> new long[] {x.print()},
            printOf(Rows.join(Rows.filled(1000, 5), Rows.zeros(11))));
        CASES.answers("16 MEMORY, the three bytes of the PC, and D", x -> {
            framed(x);
            x.jump(0x0A0B0C);
            x.call(0xFFFEFD, NONE, 7, 15);
        }, x -> new long[] {x.print()}, printOf(Rows.join(
            Rows.row(21, 22, 23, 255, 254, 253, 0, 0, 0, 0, 0, 0, 0, 1, 0, 5),
            Rows.row(0, 0, 70, 2, 90, 7, 0, 2, 0, 11, 0, 12, 0, 13, 0, 14),
            Rows.row(10, 11, 12, 31, 0, 127, 0, 0), Rows.zeros(30))));
        CASES.answers("16 a RESULT of 0 and one that is thrown away differ", x -> {
            three(x);
            x.call(0, NONE, 0, 0);
        }, x -> new long[] {x.print(), x.leave(), x.call(0, 0, 0, 0), x.print()},
            printOf(Rows.join(Rows.row(21, 22, 23), Rows.zeros(11), Rows.row(0, 0, 0, 16, 0, 0, 0, 0))), 0, 2,
            printOf(Rows.join(Rows.row(21, 22, 23), Rows.zeros(11), Rows.row(0, 0, 0, 0, 0, 0, 0, 0))));
        CASES.refused("16 it changes nothing", SessionTest::three, Counted::print,
            printOf(21, 22, 23, 0, 0, 0, 0, 0, 0, 0, 0, 0, 0, 0));
    }
}
