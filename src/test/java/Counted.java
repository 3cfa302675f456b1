/** A ZSaves that counts its calls: the document promises nothing behind the 512th, so no test may ask there. */
final class Counted {
    static final int MOST = 512;

    private final ZSaves object = new ZSaves();
    private int calls = 0;

    int left() {
        return MOST - calls;
    }

    private ZSaves counted() {
        calls++;
        if (calls > MOST) {
            throw new IllegalStateException("a test makes more than " + MOST + " calls on one object");
        }
        return object;
    }

    int feed(int a, int b, int c, int d, int e) {
        return counted().feed(a, b, c, d, e);
    }

    int end(int n) {
        return counted().end(n);
    }

    int out(int i) {
        return counted().out(i);
    }

    int back() {
        return counted().back();
    }

    int story() {
        return counted().story();
    }

    int poke(int at, int v) {
        return counted().poke(at, v);
    }

    int peek(int at) {
        return counted().peek(at);
    }

    int jump(int v) {
        return counted().jump(v);
    }

    int call(int to, int result, int arguments, int locals) {
        return counted().call(to, result, arguments, locals);
    }

    int leave() {
        return counted().leave();
    }

    int local(int i, int v) {
        return counted().local(i, v);
    }

    int push(int v) {
        return counted().push(v);
    }

    int pop() {
        return counted().pop();
    }

    int frame(int i, int what) {
        return counted().frame(i, what);
    }

    long print() {
        return counted().print();
    }

    int save(boolean plain) {
        return counted().save(plain);
    }

    int restore() {
        return counted().restore();
    }

    int why(int what) {
        return counted().why(what);
    }

    int chunk(int i, int what) {
        return counted().chunk(i, what);
    }

    int write() {
        return counted().write();
    }

    int cut(int n) {
        return counted().cut(n);
    }

    int load() {
        return counted().load();
    }

    int keep() {
        return counted().keep();
    }

    int undo() {
        return counted().undo();
    }

    int bound(int n) {
        return counted().bound(n);
    }

    int restart() {
        return counted().restart();
    }

    int told(int what) {
        return counted().told(what);
    }
}
