/**
 * A DebugBackEnd that counts its calls. The document leaves free what an object answers after its 512th call, so a test
 * that goes on beyond it would test nothing.
 */
final class Counted {
    private static final int CALLS = 512;
    private static int most = 0;

    private final DebugBackEnd x = new DebugBackEnd();
    private int calls = 0;

    static boolean allWithinTheLimit() {
        return most <= CALLS;
    }

    private DebugBackEnd x() {
        calls++;
        most = Math.max(most, calls);
        return x;
    }

    int instr(int method, int op, int n) {
        return x().instr(method, op, n);
    }

    int handler(int method, int at) {
        return x().handler(method, at);
    }

    int start(int thread, int method, int value) {
        return x().start(thread, method, value);
    }

    int run(int n) {
        return x().run(n);
    }

    int request(int kind, int a, int b, int policy, int skip) {
        return x().request(kind, a, b, policy, skip);
    }

    int clear(int request) {
        return x().clear(request);
    }

    int suspend(int thread) {
        return x().suspend(thread);
    }

    int resume(int thread) {
        return x().resume(thread);
    }

    int event(int what) {
        return x().event(what);
    }

    int next() {
        return x().next();
    }

    int frame(int thread, int f, int what) {
        return x().frame(thread, f, what);
    }

    long local(int thread, int f, int k) {
        return x().local(thread, f, k);
    }

    int setInt(int thread, int f, int k, int value) {
        return x().setInt(thread, f, k, value);
    }

    int setReference(int thread, int f, int k, int id) {
        return x().setReference(thread, f, k, id);
    }

    long field(int id, int field) {
        return x().field(id, field);
    }

    int pin(int id, boolean on) {
        return x().pin(id, on);
    }

    int collect() {
        return x().collect();
    }

    int pop(int thread, int f) {
        return x().pop(thread, f);
    }

    int force(int thread, int value) {
        return x().force(thread, value);
    }

    int raise(int thread, int value) {
        return x().raise(thread, value);
    }

    long result(int thread) {
        return x().result(thread);
    }

    int thread(int thread, int what) {
        return x().thread(thread, what);
    }

    int count(int what) {
        return x().count(what);
    }

    /** Adds instructions to a method: op, x, op, x, .. */
    Counted code(int method, int... pairs) {
        for (int i = 0; i < pairs.length; i += 2) {
            instr(method, pairs[i], pairs[i + 1]);
        }
        return this;
    }
}
