import java.util.List;
import java.util.function.Supplier;

/** What the tests of the document's boundary cases share. */
abstract class Edges {
    static final int R = DebugBackEnd.REFUSED;
    static final long REF = DebugBackEnd.REFERENCE;
    static final long TO_NONE = REF - 1;
    static final long NO_ID = DebugBackEnd.NO_ID;
    static final long GONE = DebugBackEnd.GONE;
    static final long NONE = DebugBackEnd.NONE;
    static final int LOWEST = Integer.MIN_VALUE;
    static final int HIGHEST = Integer.MAX_VALUE;

    static final int PUSH = 0, LOAD = 1, STORE = 2, ADD = 3, LESS = 4, NEW = 5, GET = 6, PUT = 7, CALL = 8, RETURN = 9,
        GOTO = 10, ZERO = 11, THROW = 12;
    static final int BREAK = 0, STEP = 1, WATCH = 2, EXCEPTION = 3, ENTRY = 4;
    static final int INTO = 0, OVER = 1, OUT = 2;

    /** Eight values, the most that a stack holds; the highest is 7. */
    static final int[] FULL_STACK =
        {PUSH, 0, PUSH, 1, PUSH, 2, PUSH, 3, PUSH, 4, PUSH, 5, PUSH, 6, PUSH, 7};

    static Check check;

    interface Call {
        long on(Counted x);
    }

    interface NumberCall {
        long on(Counted x, int n);
    }

    static void sentence(String words) {
        check.part(words);
    }

    static void due(String call, long got, long want) {
        check.due(call, got, want);
    }

    static void row(String call, long[] got, long... want) {
        check.row(call, got, want);
    }

    static long[] of(long... answers) {
        return answers;
    }

    static void end() {
        check.part("the tests themselves");
        check.due("no object is asked more than 512 times", Counted.allWithinTheLimit() ? 1 : 0, 1);
        check.end();
    }

    /** Thread 0 stands before the first of these instructions of method 0; its local 0 is 0. */
    static Counted started(int... pairs) {
        Counted x = new Counted().code(0, pairs);
        x.start(0, 0, 0);
        return x;
    }

    /** As started, and n steps are made. */
    static Counted ran(int n, int... pairs) {
        Counted x = started(pairs);
        make(x, n);
        return x;
    }

    /** As ran, and thread 0 is suspended. */
    static Counted still(int n, int... pairs) {
        Counted x = ran(n, pairs);
        x.suspend(0);
        return x;
    }

    /** Makes so many steps, however many. */
    static void make(Counted x, int steps) {
        for (int left = steps; left > 0; left -= 50) {
            int n = Math.min(left, 50);
            due("run(" + n + ")", x.run(n), n);
        }
    }

    /** Makes so many steps of thread 0, which is suspended before and behind them. */
    static void go(Counted x, int steps) {
        x.resume(0);
        make(x, steps);
        x.suspend(0);
    }

    static int[] join(int[] first, int... second) {
        int[] both = java.util.Arrays.copyOf(first, first.length + second.length);
        System.arraycopy(second, 0, both, first.length, second.length);
        return both;
    }

    static long[] event(Counted x) {
        return of(x.event(0), x.event(1), x.event(2), x.event(3), x.event(4));
    }

    static long[] suspendCounts(Counted x) {
        return of(x.thread(0, 1), x.thread(1, 1), x.thread(2, 1));
    }

    static long top(Counted x) {
        return x.local(0, 0, 3 + x.frame(0, 0, 3));
    }

    /** The call is refused and changes nothing: the object is afterwards as a twin that was not asked. */
    static void refused(String name, long answer, Supplier<Counted> made, Call call) {
        Counted x = made.get();
        due(name, call.on(x), answer);
        List<String> left = State.of(x);
        List<String> due = State.of(made.get());
        due(name + " changes nothing (lines)", left.size(), due.size());
        for (int i = 0; i < Math.min(left.size(), due.size()); i++) {
            if (!left.get(i).equals(due.get(i))) {
                due(name + " leaves " + left.get(i) + ", due is " + due.get(i), 1, 0);
                return;
            }
        }
    }

    static void refused(String name, Supplier<Counted> made, Call call) {
        refused(name, R, made, call);
    }

    /** The last numbers in range are taken; the first ones out of it, and the ends of all ints, are refused. */
    static void range(String name, int from, int to, long refusal, Supplier<Counted> made, NumberCall call) {
        for (int n : new int[] {from, to}) {
            long answer = call.on(made.get(), n);
            due(name + " " + n + " is taken (" + answer + ")", answer == refusal ? 1 : 0, 0);
        }
        for (int n : new int[] {from - 1, to + 1, LOWEST, HIGHEST}) {
            refused(name + " " + n, refusal, made, x -> call.on(x, n));
        }
    }

    static void range(String name, int from, int to, Supplier<Counted> made, NumberCall call) {
        range(name, from, to, R, made, call);
    }

    /**
     * Thread 0 has three frames, has stopped and is still; thread 1 has one and runs; thread 2 is over, with an object
     * as its result. The object of ID 0 is gone, that of ID 1 is pinned, those of thread 2 and of the top frame's local
     * 3 have no ID. Events wait, and of three requests one is cleared and one skips.
     */
    static Counted busy() {
        Counted x = new Counted();
        x.code(0, NEW, 0, STORE, 1, LOAD, 1, CALL, 1, RETURN, 0);
        x.code(1, PUSH, 7, STORE, 2, LOAD, 2, LOAD, 0, CALL, 2, RETURN, 0);
        x.code(2, PUSH, 0, STORE, 0, NEW, 0, STORE, 3, PUSH, 4, PUSH, 5, ADD, 0, GOTO, 4);
        x.code(3, NEW, 0, RETURN, 0);
        x.code(4, GOTO, 0);
        x.handler(4, 11);
        x.handler(5, 2);
        x.start(2, 3, 9);
        x.run(2);
        x.result(2);
        x.start(2, 3, 9);
        x.collect();
        x.run(2);
        x.request(BREAK, 2, 6, 1, 0);
        x.request(WATCH, 0, 0, 1, 0);
        x.clear(1);
        x.start(1, 4, 6);
        x.request(BREAK, 4, 0, 0, 3);
        x.start(0, 0, 5);
        x.run(50);
        x.local(0, 2, 1);
        x.pin(1, true);
        return x;
    }
}
