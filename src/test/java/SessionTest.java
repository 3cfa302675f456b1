/** Promises 7 to 16: the session. */
public final class SessionTest {
    private static final Check CHECK = new Check();

    public static void main(String[] args) {
        memory();
        pc();
        callAndLeave();
        callRefused();
        local();
        stack();
        frame();
        print();
        CHECK.finish();
    }

    private static void memory() {
        ZSaves x = Rows.withStory(21, 22, 23);
        CHECK.due("7: poke", x.poke(1, 255), 22);
        CHECK.due("7: and again", x.poke(1, 0), 255);
        CHECK.due("7: at -1", x.poke(-1, 0), ZSaves.BAD);
        CHECK.due("7: at 3", x.poke(3, 0), ZSaves.BAD);
        CHECK.due("7: v -1", x.poke(0, -1), ZSaves.BAD);
        CHECK.due("7: v 256", x.poke(0, 256), ZSaves.BAD);
        CHECK.due("8: nothing changed", x.peek(0), 21);
        CHECK.due("8: peek", x.peek(1), 0);
        CHECK.due("8: the last", x.peek(2), 23);
        CHECK.due("8: at 3", x.peek(3), ZSaves.BAD);
        CHECK.due("8: at -1", x.peek(-1), ZSaves.BAD);
        CHECK.due("8: far away", x.peek(Integer.MAX_VALUE), ZSaves.BAD);
        ZSaves y = Rows.withStory(Rows.zeros(20));
        CHECK.due("7: the bits can be poked", y.poke(17, 255), 0);
        CHECK.due("8: the bits", y.peek(17), 255);
    }

    private static void pc() {
        ZSaves x = Rows.withStory(1);
        CHECK.due("9: jump", x.jump(16777215), 0);
        CHECK.due("9: one too far", x.jump(16777216), ZSaves.BAD);
        CHECK.due("9: below 0", x.jump(-1), ZSaves.BAD);
        CHECK.due("9: what it was", x.jump(0), 16777215);
        CHECK.due("9: told", x.told(1), 0);
    }

    private static void callAndLeave() {
        ZSaves x = Rows.withStory(1);
        x.jump(1000);
        CHECK.due("10: call", x.call(2000, 255, 7, 15), 2);
        CHECK.due("10: pc", x.told(1), 2000);
        CHECK.due("10: back", x.frame(1, 0), 1000);
        CHECK.due("10: result", x.frame(1, 1), 255);
        CHECK.due("10: arguments", x.frame(1, 2), 7);
        CHECK.due("10: locals", x.frame(1, 3), 15);
        CHECK.due("10: thrown away", x.call(16777215, ZSaves.NONE, 0, 0), 3);
        CHECK.due("10: told so", x.frame(2, 1), ZSaves.NONE);
        CHECK.due("11: leave", x.leave(), 2000);
        CHECK.due("11: pc", x.told(1), 2000);
        CHECK.due("11: leave", x.leave(), 1000);
        CHECK.due("11: the first one", x.leave(), ZSaves.NONE);
        CHECK.due("11: pc stays", x.told(1), 1000);
        CHECK.due("11: frames", x.told(2), 1);
        x.call(1, 1, 1, 15);
        for (int i = 0; i < 15; i++) {
            x.local(i, 65535);
        }
        x.push(9);
        x.leave();
        x.call(1, 1, 1, 15);
        for (int i = 0; i < 15; i++) {
            CHECK.due("10: locals are 0 again", x.frame(1, 10 + i), 0);
        }
        CHECK.due("10: an empty stack again", x.frame(1, 4), 0);
    }

    private static void callRefused() {
        ZSaves x = Rows.withStory(1);
        int[][] wrong = {
            {-1, 0, 0, 0}, {16777216, 0, 0, 0}, {0, -1, 0, 0}, {0, -3, 0, 0}, {0, 256, 0, 0},
            {0, 0, -1, 0}, {0, 0, 8, 0}, {0, 0, 0, -1}, {0, 0, 0, 16}};
        for (int[] w : wrong) {
            CHECK.due("10: out of bounds", x.call(w[0], w[1], w[2], w[3]), ZSaves.BAD);
        }
        CHECK.due("10: nothing changed", x.told(2), 1);
        for (int i = 2; i <= 20; i++) {
            CHECK.due("10: frames", x.call(i, 0, 0, 0), i);
        }
        CHECK.due("10: the 21st", x.call(99, 0, 0, 0), ZSaves.FULL);
        CHECK.due("10: pc stays", x.told(1), 20);
        CHECK.due("10: bad comes ahead of full", x.call(-1, 0, 0, 0), ZSaves.BAD);
    }

    private static void local() {
        ZSaves x = Rows.withStory(1);
        CHECK.due("12: the first frame has none", x.local(0, 0), ZSaves.BAD);
        x.call(0, 0, 0, 2);
        CHECK.due("12: local", x.local(1, 65535), 0);
        CHECK.due("12: what it was", x.local(1, 3), 65535);
        CHECK.due("12: i -1", x.local(-1, 0), ZSaves.BAD);
        CHECK.due("12: i 2", x.local(2, 0), ZSaves.BAD);
        CHECK.due("12: v -1", x.local(0, -1), ZSaves.BAD);
        CHECK.due("12: v 65536", x.local(0, 65536), ZSaves.BAD);
        x.push(8);
        CHECK.due("12: the stack is no local", x.local(2, 0), ZSaves.BAD);
        x.call(0, 0, 0, 3);
        CHECK.due("12: of the newest", x.local(1, 7), 0);
        x.leave();
        CHECK.due("12: the one before has its own", x.local(1, 7), 3);
    }

    private static void stack() {
        ZSaves x = Rows.withStory(1);
        CHECK.due("14: none", x.pop(), ZSaves.NONE);
        CHECK.due("13: -1", x.push(-1), ZSaves.BAD);
        CHECK.due("13: 65536", x.push(65536), ZSaves.BAD);
        x.call(0, 0, 0, 15);
        x.local(14, 99);
        for (int i = 1; i <= 40; i++) {
            CHECK.due("13: push", x.push(65536 - i), i);
        }
        CHECK.due("13: the 41st", x.push(0), ZSaves.FULL);
        CHECK.due("13: bad comes ahead of full", x.push(-1), ZSaves.BAD);
        for (int i = 40; i >= 1; i--) {
            CHECK.due("14: pop", x.pop(), 65536 - i);
        }
        CHECK.due("14: locals are no stack", x.pop(), ZSaves.NONE);
        CHECK.due("14: they stay", x.frame(1, 24), 99);
        x.push(4);
        x.call(0, 0, 0, 0);
        CHECK.due("14: of the newest alone", x.pop(), ZSaves.NONE);
        CHECK.due("13: of the newest alone", x.push(1), 1);
    }

    private static void frame() {
        ZSaves x = Rows.withStory(1);
        x.push(5);
        x.call(0, 0, 3, 2);
        x.local(0, 11);
        x.local(1, 12);
        x.push(13);
        x.push(14);
        for (int k = 0; k < 4; k++) {
            CHECK.due("15: word " + k, x.frame(1, 10 + k), 11 + k);
        }
        CHECK.due("15: no such word", x.frame(1, 14), ZSaves.NONE);
        CHECK.due("15: far away", x.frame(1, Integer.MAX_VALUE), ZSaves.NONE);
        CHECK.due("15: of the first", x.frame(0, 10), 5);
        CHECK.due("15: arguments", x.frame(1, 2), 3);
        CHECK.due("15: locals", x.frame(1, 3), 2);
        CHECK.due("15: stack", x.frame(1, 4), 2);
        CHECK.due("15: frame -1", x.frame(-1, 0), ZSaves.NONE);
        CHECK.due("15: frame 2", x.frame(2, 0), ZSaves.NONE);
        for (int what = 5; what < 10; what++) {
            CHECK.due("15: another what", x.frame(1, what), ZSaves.BAD);
        }
        CHECK.due("15: below 0", x.frame(1, -1), ZSaves.BAD);
        CHECK.due("15: none comes ahead of bad", x.frame(2, -1), ZSaves.NONE);
        x.pop();
        CHECK.due("15: a word that went", x.frame(1, 13), ZSaves.NONE);
    }

    private static void print() {
        ZSaves x = Rows.withStory(1, 2, 255);
        int[] bytes = {1, 2, 255, 0, 0, 0, 0, 0, 0, 0, 0, 0, 0, 0};
        CHECK.due("16: as it begins", x.print(), printOf(bytes));
        x.poke(0, 200);
        x.push(0x1234);
        x.jump(0x0A0B0C);
        x.call(0xFFFEFD, ZSaves.NONE, 2, 1);
        x.local(0, 0xABCD);
        int[] later = {200, 2, 255, 255, 254, 253, 0, 0, 0, 0, 0, 0, 0, 1, 0x12, 0x34,
            10, 11, 12, 17, 0, 3, 0, 0, 0xAB, 0xCD};
        CHECK.due("16: later", x.print(), printOf(later));
        CHECK.due("16: asking changes nothing", x.print(), printOf(later));
        x.pop();
        x.poke(0, 1);
        x.leave();
        x.pop();
        x.jump(0);
        CHECK.due("16: as it began", x.print(), printOf(bytes));
    }

    private static long printOf(int... bytes) {
        long h = -3750763034362895579L;
        for (int b : bytes) {
            h = (h ^ b) * 1099511628211L;
        }
        return h;
    }
}
