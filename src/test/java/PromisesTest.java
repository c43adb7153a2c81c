/** Each promise with ordinary inputs, its edges, and wrong inputs. */
public final class PromisesTest {
    private static final int R = DebugBackEnd.REFUSED;
    private static final long REF = DebugBackEnd.REFERENCE;
    private static final long TO_NONE = REF - 1;
    private static final long NO_ID = DebugBackEnd.NO_ID;
    private static final long GONE = DebugBackEnd.GONE;
    private static final long NONE = DebugBackEnd.NONE;
    private static final int LOWEST = Integer.MIN_VALUE;
    private static final int HIGHEST = Integer.MAX_VALUE;

    private static final int PUSH = 0, LOAD = 1, STORE = 2, ADD = 3, LESS = 4, NEW = 5, GET = 6, PUT = 7, CALL = 8,
        RETURN = 9, GOTO = 10, ZERO = 11, THROW = 12;
    private static final int BREAK = 0, STEP = 1, WATCH = 2, EXCEPTION = 3, ENTRY = 4;
    private static final int INTO = 0, OVER = 1, OUT = 2;

    private static final Check check = new Check("PromisesTest");
    private static DebugBackEnd x;

    public static void main(String[] args) {
        newObject();
        instr();
        handler();
        start();
        run();
        runRound();
        runInstructions();
        runReferences();
        runFaults();
        runFaultOrder();
        runThrowing();
        request();
        requestBreak();
        requestStop();
        requestStep();
        requestWatch();
        requestException();
        requestEntry();
        requestPolicy();
        requestSkip();
        clear();
        suspendAndResume();
        event();
        next();
        frame();
        local();
        ids();
        setInt();
        setReference();
        field();
        pin();
        collect();
        collectRoots();
        pop();
        force();
        raise();
        result();
        thread();
        count();
        check.end();
    }

    private static void begin(String part) {
        check.part(part);
        x = new DebugBackEnd();
    }

    private static void due(String call, long got, long want) {
        check.due(call, got, want);
    }

    /** Adds instructions to a method: op, x, op, x, .. */
    private static void code(int method, int... pairs) {
        for (int i = 0; i < pairs.length; i += 2) {
            if (x.instr(method, pairs[i], pairs[i + 1]) == R) {
                due("instr(" + method + ", " + pairs[i] + ", " + pairs[i + 1] + ") refused", 1, 0);
            }
        }
    }

    /** A fresh object whose thread 0 has method 0 with these instructions, local 0 being 0, and has made n steps. */
    private static void ready(String part, int n, int... pairs) {
        begin(part);
        code(0, pairs);
        x.start(0, 0, 0);
        if (n > 0) {
            due("run(" + n + ")", x.run(n), n);
        }
    }

    /** As ready, and thread 0 is still. */
    private static void still(String part, int n, int... pairs) {
        ready(part, n, pairs);
        x.suspend(0);
    }

    private static void event(String call, int request, int kind, int thread, int method, int counter) {
        long[] got = {x.event(0), x.event(1), x.event(2), x.event(3), x.event(4)};
        check.row(call, got, request, kind, thread, method, counter);
    }

    private static void counts(String call, long... want) {
        long[] got = new long[8];
        for (int i = 0; i < 8; i++) {
            got[i] = x.count(i);
        }
        check.row(call, got, want);
    }

    private static void newObject() {
        begin("1 new object");
        counts("count", 0, 0, 0, 0, 0, 0, 0, 0);
        for (int t = 0; t < 3; t++) {
            check.row("thread " + t, new long[] {x.thread(t, 0), x.thread(t, 1), x.thread(t, 2)}, 0, 0, 0);
            due("result", x.result(t), NONE);
            due("frame", x.frame(t, 0, 0), R);
        }
        for (int m = 0; m < 6; m++) {
            due("handler(" + m + ", -1)", x.handler(m, -1), -1);
            due("instr(" + m + ", 5, 0)", x.instr(m, NEW, 0), 1);
        }
        due("run(50)", x.run(50), 0);
        due("event(0)", x.event(0), R);
        due("next()", x.next(), R);
        due("collect()", x.collect(), 0);
        due("field(0, 0)", x.field(0, 0), NONE);
        DebugBackEnd first = x;
        begin("1 two objects");
        due("its own method", x.instr(0, NEW, 0), 1);
        due("the other's method", first.instr(0, NEW, 0), 2);
    }

    private static void instr() {
        begin("2 instr");
        int[][] edges = {{PUSH, -1000, 1000}, {LOAD, 0, 3}, {STORE, 0, 3}, {GET, 0, 1}, {PUT, 0, 1}, {CALL, 0, 5},
            {GOTO, 0, 11}, {ZERO, 0, 11}};
        for (int[] edge : edges) {
            begin("2 instr, op " + edge[0]);
            due("lowest x", x.instr(3, edge[0], edge[1]), 1);
            due("highest x", x.instr(3, edge[0], edge[2]), 2);
            due("x too low", x.instr(3, edge[0], edge[1] - 1), R);
            due("x too high", x.instr(3, edge[0], edge[2] + 1), R);
            due("x lowest int", x.instr(3, edge[0], LOWEST), R);
            due("x highest int", x.instr(3, edge[0], HIGHEST), R);
            due("no refused one was added", x.instr(3, NEW, 0), 3);
        }
        for (int op : new int[] {ADD, LESS, NEW, RETURN, THROW}) {
            begin("2 instr, op " + op);
            due("x anything", x.instr(5, op, LOWEST), 1);
            due("x anything", x.instr(5, op, HIGHEST), 2);
        }
        begin("2 instr, wrong");
        due("method -1", x.instr(-1, NEW, 0), R);
        due("method 6", x.instr(6, NEW, 0), R);
        due("op -1", x.instr(0, -1, 0), R);
        due("op 13", x.instr(0, 13, 0), R);
        for (int i = 1; i <= 12; i++) {
            due("instruction " + i, x.instr(0, NEW, 0), i);
        }
        due("a 13th", x.instr(0, NEW, 0), R);
        due("a 13th", x.instr(0, NEW, 0), R);
        due("another method", x.instr(1, NEW, 0), 1);
        ready("2 instr while a thread is in the method", 1, PUSH, 4);
        code(0, RETURN, 0);
        due("run", x.run(9), 1);
        due("result", x.result(0), 4);
    }

    private static void handler() {
        begin("3 handler");
        due("first", x.handler(2, 11), -1);
        due("second", x.handler(2, 0), 11);
        due("none", x.handler(2, -1), 0);
        due("none again", x.handler(2, -1), -1);
        due("at 12", x.handler(2, 12), R);
        due("at -2", x.handler(2, -2), R);
        due("method -1", x.handler(-1, 0), R);
        due("method 6", x.handler(6, 0), R);
        due("nothing was changed", x.handler(2, 4), -1);
        due("another method", x.handler(5, 4), -1);
    }

    private static void start() {
        begin("4 start");
        code(1, LOAD, 0, RETURN, 0);
        due("idle", x.start(2, 1, HIGHEST), 0);
        due("has frames", x.start(2, 1, 5), R);
        x.suspend(2);
        due("local 0", x.local(2, 0, 0), HIGHEST);
        check.row("others", new long[] {x.local(2, 0, 1), x.local(2, 0, 2), x.local(2, 0, 3)}, 0, 0, 0);
        check.row("frame", new long[] {x.frame(2, 0, 0), x.frame(2, 0, 1), x.frame(2, 0, 2), x.frame(2, 0, 3)},
            1, 0, 0, 0);
        x.resume(2);
        due("run", x.run(9), 2);
        due("result", x.result(2), HIGHEST);
        x.suspend(2);
        due("over", x.start(2, 1, LOWEST), 1);
        due("result of one that is started", x.result(2), NONE);
        due("suspend count stays", x.thread(2, 1), 1);
        due("local 0", x.local(2, 0, 0), LOWEST);
        due("thread -1", x.start(-1, 0, 0), R);
        due("thread 3", x.start(3, 0, 0), R);
        due("method -1", x.start(0, -1, 0), R);
        due("method 6", x.start(0, 6, 0), R);
        due("still idle", x.thread(0, 2), 0);
        ready("4 start, locals of a frame that was used", 2, PUSH, 7, STORE, 1, PUSH, 0, RETURN, 0);
        due("run", x.run(9), 2);
        due("over", x.start(0, 0, 0), 1);
        x.suspend(0);
        due("local 1", x.local(0, 0, 1), 0);
    }

    private static void run() {
        ready("5 run", 0, GOTO, 0);
        due("n 0", x.run(0), R);
        due("n -1", x.run(-1), R);
        due("n 51", x.run(51), R);
        due("no step was made", x.count(6), 0);
        due("n 1", x.run(1), 1);
        due("n 50", x.run(50), 50);
        due("steps", x.count(6), 51);
        x.suspend(0);
        due("none can", x.run(50), 0);
        due("steps", x.count(6), 51);
        ready("5 run, a thread that ends", 0, PUSH, 1, RETURN, 0);
        due("run", x.run(50), 2);
        due("run", x.run(50), 0);
        ready("5 run, a step that (1) ended counts", 0, PUSH, 1, RETURN, 0);
        x.request(BREAK, 0, 0, 1, 0);
        due("run", x.run(50), 1);
        due("steps", x.count(6), 1);
        due("counter", x.frame(0, 0, 1), 0);
        due("suspended", x.run(50), 0);
    }

    private static void runRound() {
        begin("5 run, round");
        code(0, GOTO, 0);
        x.request(BREAK, 0, 0, 0, 0);
        x.start(0, 0, 0);
        x.start(1, 0, 0);
        x.start(2, 0, 0);
        x.run(2);
        x.suspend(2);
        x.run(2);
        x.resume(2);
        x.run(3);
        int[] order = {0, 1, 0, 1, 2, 0, 1};
        for (int i = 0; i < order.length; i++) {
            due("step " + i, x.event(2), order[i]);
            x.next();
        }
        begin("5 run, a step that (1) ended is the last step too");
        code(0, GOTO, 0);
        x.start(0, 0, 0);
        x.start(1, 0, 0);
        x.request(BREAK, 0, 0, 2, 0);
        due("run", x.run(50), 1);
        x.resume(3);
        due("run", x.run(50), 1);
        due("first", x.event(2), 0);
        x.next();
        due("second", x.event(2), 1);
        x.next();
        x.resume(3);
        due("thread 0 goes on, thread 1 too, and then thread 0 stops", x.run(50), 3);
        due("third", x.event(2), 0);
    }

    private static long top() {
        return x.local(0, 0, 3 + x.frame(0, 0, 3));
    }

    private static void runInstructions() {
        still("5 PUSH", 2, PUSH, -1000, PUSH, 1000);
        check.row("stack", new long[] {x.local(0, 0, 4), x.local(0, 0, 5), x.local(0, 0, 6)}, -1000, 1000, NONE);
        still("5 LOAD and STORE", 4, PUSH, 8, STORE, 3, LOAD, 3, LOAD, 2);
        check.row("stack", new long[] {x.local(0, 0, 4), x.local(0, 0, 5), x.local(0, 0, 6)}, 8, 0, NONE);
        due("local 3", x.local(0, 0, 3), 8);
        still("5 ADD", 3, PUSH, 700, PUSH, -1000, ADD, 0);
        due("sum", top(), -300);
        due("values", x.frame(0, 0, 3), 1);
        still("5 ADD wraps", 0, LOAD, 0, PUSH, 1, ADD, 0);
        x.setInt(0, 0, 0, HIGHEST);
        x.resume(0);
        x.run(3);
        x.suspend(0);
        due("sum", top(), LOWEST);
        int[][] less = {{1, 2, 1}, {2, 1, 0}, {2, 2, 0}, {-1, 0, 1}, {1, -1, 0}};
        for (int[] row : less) {
            still("5 LESS", 3, PUSH, row[0], PUSH, row[1], LESS, 0);
            due(row[0] + " < " + row[1], top(), row[2]);
            due("values", x.frame(0, 0, 3), 1);
        }
        still("5 LESS at the edges", 0, LOAD, 0, LOAD, 1, LESS, 0);
        x.setInt(0, 0, 0, LOWEST);
        x.setInt(0, 0, 1, HIGHEST);
        x.resume(0);
        x.run(3);
        x.suspend(0);
        due("lowest < highest", top(), 1);
        still("5 GOTO", 1, GOTO, 11);
        due("counter", x.frame(0, 0, 1), 11);
        still("5 ZERO of 0", 2, PUSH, 0, ZERO, 7);
        due("counter", x.frame(0, 0, 1), 7);
        due("values", x.frame(0, 0, 3), 0);
        still("5 ZERO of another", 2, PUSH, 1, ZERO, 7);
        due("counter", x.frame(0, 0, 1), 2);
        due("values", x.frame(0, 0, 3), 0);
        still("5 ZERO of a reference", 2, NEW, 0, ZERO, 7);
        due("counter", x.frame(0, 0, 1), 2);
        due("values", x.frame(0, 0, 3), 0);
        begin("5 CALL and RETURN");
        code(0, PUSH, 3, PUSH, 9, CALL, 4, RETURN, 0);
        code(4, PUSH, 1, LOAD, 0, RETURN, 0);
        x.start(0, 0, 0);
        x.run(3);
        x.suspend(0);
        check.row("callee", new long[] {x.frame(0, 0, 0), x.frame(0, 0, 1), x.frame(0, 0, 3), x.local(0, 0, 0)},
            4, 0, 0, 9);
        check.row("caller", new long[] {x.frame(0, 1, 0), x.frame(0, 1, 1), x.frame(0, 1, 3), x.local(0, 1, 4)},
            0, 3, 1, 3);
        x.resume(0);
        x.run(3);
        x.suspend(0);
        check.row("back", new long[] {x.thread(0, 0), x.frame(0, 0, 1), x.frame(0, 0, 3), x.local(0, 0, 5)},
            1, 3, 2, 9);
        x.resume(0);
        due("last", x.run(9), 1);
        due("over", x.thread(0, 2), 2);
        due("result", x.result(0), 9);
        begin("5 CALL, a second frame has nothing of the first");
        code(0, PUSH, 3, CALL, 4, CALL, 4);
        code(4, PUSH, 1, PUSH, 2, STORE, 3, PUSH, 5, RETURN, 0);
        x.start(0, 0, 0);
        due("run", x.run(8), 8);
        x.suspend(0);
        check.row("callee", new long[] {x.frame(0, 0, 0), x.frame(0, 0, 1), x.frame(0, 0, 3), x.local(0, 0, 0),
            x.local(0, 0, 3)}, 4, 0, 0, 5, 0);
    }

    private static void runReferences() {
        still("5 NEW, PUT, GET", 4, NEW, 0, STORE, 1, LOAD, 1, GET, 0);
        due("a field is 0 at first", top(), 0);
        still("5 NEW, PUT, GET", 8, NEW, 0, STORE, 1, LOAD, 1, PUSH, 6, PUT, 1, LOAD, 1, GET, 1, LOAD, 1);
        due("values", x.frame(0, 0, 3), 2);
        due("what was put", x.local(0, 0, 4), 6);
        due("its reference", x.local(0, 0, 5), REF);
        due("the other field", x.field(0, 0), 0);
        due("the field", x.field(0, 1), 6);
        still("5 PUT of a reference to itself", 5, NEW, 0, STORE, 1, LOAD, 1, LOAD, 1, PUT, 0);
        due("reference", x.local(0, 0, 1), REF);
        due("the same ID", x.field(0, 0), REF);
        due("values", x.frame(0, 0, 3), 0);
        ready("5 THROW of a reference", 0, NEW, 0, THROW, 0);
        due("run", x.run(9), 2);
        due("result", x.result(0), REF);
    }

    private static void fault(String part, int steps, int fault, int... pairs) {
        ready(part, steps, pairs);
        due("one step more", x.run(1), 1);
        due("over", x.thread(0, 2), 2);
        due("result", x.result(0), fault);
    }

    private static void runFaults() {
        for (int op : new int[] {STORE, ADD, LESS, GET, PUT, CALL, RETURN, ZERO, THROW}) {
            fault("5 fault 1, op " + op, 0, 1, op, 0);
        }
        fault("5 fault 1, one for ADD", 1, 1, PUSH, 0, ADD, 0);
        fault("5 fault 1, one for LESS", 1, 1, PUSH, 0, LESS, 0);
        fault("5 fault 1, one for PUT", 1, 1, NEW, 0, PUT, 0);
        fault("5 fault 2, ADD", 2, 2, NEW, 0, PUSH, 1, ADD, 0);
        fault("5 fault 2, ADD", 2, 2, PUSH, 1, NEW, 0, ADD, 0);
        fault("5 fault 2, LESS", 2, 2, NEW, 0, PUSH, 1, LESS, 0);
        fault("5 fault 2, LESS", 2, 2, PUSH, 1, NEW, 0, LESS, 0);
        fault("5 fault 2, GET", 1, 2, PUSH, 0, GET, 0);
        fault("5 fault 2, PUT", 2, 2, PUSH, 0, NEW, 0, PUT, 0);
        for (int op : new int[] {ADD, GET, PUT}) {
            still("5 fault 2, the reference to none, op " + op, 0, LOAD, 0, LOAD, 0, op, 0);
            x.setReference(0, 0, 0, -1);
            x.resume(0);
            due("run", x.run(9), 3);
            due("result", x.result(0), 2);
        }
        int[] full = {PUSH, 0, PUSH, 1, PUSH, 2, PUSH, 3, PUSH, 4, PUSH, 5, PUSH, 6, PUSH, 7};
        for (int op : new int[] {PUSH, LOAD, NEW}) {
            ready("5 fault 3, a ninth value, op " + op, 8, full);
            code(0, op, 0);
            due("run", x.run(9), 1);
            due("result", x.result(0), 3);
            due("objects", x.count(0), 0);
        }
        ready("5 a full stack is no fault for ADD and STORE", 8, full);
        code(0, ADD, 0, STORE, 0, RETURN, 0);
        due("run", x.run(9), 3);
        due("result", x.result(0), 5);
        ready("5 fault 3, a seventh frame", 10, LOAD, 0, CALL, 0);
        due("six frames", x.thread(0, 0), 6);
        due("run", x.run(9), 2);
        due("result", x.result(0), 3);
        ready("5 fault 3, a 41st object", 0, NEW, 0, STORE, 1, GOTO, 0);
        due("run", x.run(50) + x.run(50) + x.run(50), 40 * 3 + 1);
        due("result", x.result(0), 3);
        due("objects", x.count(0), 40);
        due("collect", x.collect(), 40);
        due("again", x.start(0, 0, 0), 1);
        due("run", x.run(1), 1);
        due("objects", x.count(0), 1);
    }

    private static void runFaultOrder() {
        fault("5 fault 4, no instructions", 0, 4);
        fault("5 fault 4, behind the last", 1, 4, PUSH, 0);
        fault("5 fault 4, GOTO beyond", 1, 4, GOTO, 1);
        begin("5 fault 1 before 3, CALL");
        code(0, LOAD, 0, CALL, 1);
        code(1, LOAD, 0, CALL, 2);
        code(2, LOAD, 0, CALL, 3);
        code(3, LOAD, 0, CALL, 4);
        code(4, LOAD, 0, CALL, 5);
        code(5, CALL, 0);
        x.start(0, 0, 0);
        due("run", x.run(50), 11);
        due("result", x.result(0), 1);
        still("5 a fault pops nothing and the handler's stack has only it", 2, PUSH, 0, NEW, 0, ADD, 0);
        x.handler(0, 5);
        x.resume(0);
        due("run", x.run(1), 1);
        x.suspend(0);
        check.row("frame", new long[] {x.frame(0, 0, 1), x.frame(0, 0, 3), x.local(0, 0, 4)}, 5, 1, 2);
    }

    private static void runThrowing() {
        begin("5 throwing");
        code(0, PUSH, 1, PUSH, 1, CALL, 1);
        code(1, PUSH, 1, PUSH, 1, CALL, 2);
        code(2, PUSH, 6, THROW, 0);
        x.handler(0, 9);
        x.start(0, 0, 0);
        due("run", x.run(8), 8);
        x.suspend(0);
        check.row("the lowest frame caught it",
            new long[] {x.thread(0, 0), x.frame(0, 0, 0), x.frame(0, 0, 1), x.frame(0, 0, 3), x.local(0, 0, 4)},
            1, 0, 9, 1, 6);
        x.handler(0, -1);
        x.resume(0);
        due("no instruction 9", x.run(9), 1);
        due("result", x.result(0), 4);
        begin("5 throwing, the first handler from the top");
        code(0, PUSH, 1, CALL, 1);
        code(1, PUSH, 1, CALL, 2);
        code(2, PUSH, 6, THROW, 0);
        x.handler(0, 9);
        x.handler(1, 8);
        x.start(0, 0, 0);
        due("run", x.run(6), 6);
        x.suspend(0);
        check.row("frames", new long[] {x.thread(0, 0), x.frame(0, 0, 0), x.frame(0, 0, 1)}, 2, 1, 8);
        begin("5 throwing, none catches");
        code(0, PUSH, 1, CALL, 1);
        code(1, PUSH, 6, THROW, 0);
        x.start(0, 0, 0);
        due("run", x.run(50), 4);
        check.row("thread", new long[] {x.thread(0, 0), x.thread(0, 2), x.result(0)}, 0, 2, 6);
    }

    private static void request() {
        begin("6 request");
        int[][] wrong = {{-1, 0, 0, 0, 0}, {5, 0, 0, 0, 0}, {BREAK, -1, 0, 0, 0}, {BREAK, 6, 0, 0, 0},
            {BREAK, 0, -1, 0, 0}, {BREAK, 0, 12, 0, 0}, {STEP, -1, 0, 0, 0}, {STEP, 3, 0, 0, 0}, {STEP, 0, -1, 0, 0},
            {STEP, 0, 3, 0, 0}, {STEP, 1, 0, 0, 0}, {WATCH, 0, -1, 0, 0}, {WATCH, 0, 2, 0, 0}, {EXCEPTION, 0, 0, 0, 0},
            {EXCEPTION, 4, 0, 0, 0}, {ENTRY, -1, 0, 0, 0}, {ENTRY, 6, 0, 0, 0}, {BREAK, 0, 0, -1, 0},
            {BREAK, 0, 0, 3, 0}, {BREAK, 0, 0, 0, -1}, {BREAK, 0, 0, 0, 10}};
        x.start(0, 0, 0);
        for (int[] w : wrong) {
            due("request " + java.util.Arrays.toString(w), x.request(w[0], w[1], w[2], w[3], w[4]), R);
        }
        due("none was made", x.count(4), 0);
        int[][] right = {{BREAK, 0, 0, 0, 0}, {BREAK, 5, 11, 2, 9}, {STEP, 0, 0, 1, 0}, {STEP, 0, 2, 1, 0},
            {WATCH, LOWEST, 0, 0, 0}, {WATCH, HIGHEST, 1, 0, 0}, {EXCEPTION, 1, LOWEST, 0, 0},
            {EXCEPTION, 3, HIGHEST, 0, 0}, {ENTRY, 0, LOWEST, 0, 0}, {ENTRY, 5, HIGHEST, 0, 0}};
        for (int i = 0; i < 16; i++) {
            int[] r = right[i % right.length];
            due("request " + i, x.request(r[0], r[1], r[2], r[3], r[4]), i);
        }
        due("a 17th", x.request(BREAK, 0, 0, 0, 0), R);
        due("a clear makes no room", x.clear(0), 1);
        due("a 17th", x.request(BREAK, 0, 0, 0, 0), R);
        due("made", x.count(4), 16);
        due("on", x.count(5), 15);
        due("a run looks at all of them", x.run(1), 1);
        check.row("events: an entry, a break, and behind the fault an exception",
            new long[] {x.event(0), x.next(), x.event(0), x.next(), x.event(0), x.next()}, 8, 2, 10, 1, 7, 0);
    }

    private static void requestBreak() {
        ready("6 BREAK", 0, PUSH, 1, PUSH, 2, PUSH, 3, RETURN, 0);
        x.request(BREAK, 0, 1, 1, 0);
        x.request(BREAK, 1, 0, 1, 0);
        x.request(BREAK, 0, 2, 1, 0);
        due("run", x.run(50), 2);
        event("event", 0, BREAK, 0, 0, 1);
        due("not done", x.frame(0, 0, 3), 1);
        due("run", x.run(50), 0);
        x.resume(0);
        due("run", x.run(50), 2);
        due("next", x.next(), 1);
        event("event", 2, BREAK, 0, 0, 2);
        x.resume(0);
        due("to the end", x.run(50), 2);
    }

    private static void requestStop() {
        ready("6 a thread that stopped looks again only behind a step", 0, GOTO, 0);
        x.request(BREAK, 0, 0, 1, 0);
        due("stops", x.run(50), 1);
        x.request(ENTRY, 0, 0, 1, 0);
        x.resume(0);
        due("goes on without an event, and stops again", x.run(50), 2);
        due("events", x.count(2), 2);
        begin("6 one whom another's event suspends has not stopped");
        code(0, GOTO, 0);
        code(1, GOTO, 0);
        x.start(0, 0, 0);
        x.start(1, 1, 0);
        x.request(BREAK, 0, 0, 2, 0);
        x.request(BREAK, 1, 0, 1, 0);
        due("thread 0 stops", x.run(50), 1);
        x.resume(3);
        due("thread 1 stops", x.run(50), 1);
        due("events", x.count(2), 2);
        x.next();
        event("event", 1, BREAK, 1, 1, 0);
        ready("6 one that suspend() suspended has not stopped", 1, GOTO, 0);
        x.suspend(0);
        x.request(BREAK, 0, 0, 1, 0);
        x.resume(0);
        due("run", x.run(50), 1);
        due("suspended", x.thread(0, 1), 1);
        ready("6 an event behind an instruction is no stop", 0, NEW, 0, PUSH, 1, PUT, 0, PUSH, 0, RETURN, 0);
        x.request(WATCH, 0, 0, 1, 0);
        x.request(BREAK, 0, 3, 1, 0);
        due("the watch", x.run(50), 3);
        x.resume(0);
        due("the break", x.run(50), 1);
        due("next", x.next(), 1);
        event("event", 1, BREAK, 0, 0, 3);
    }

    /** Thread 0 in method 0 with a frame of method 1 upon it, before the instruction 0 of that. */
    private static void called(String part) {
        begin(part);
        code(0, PUSH, 1, CALL, 1, PUSH, 2, CALL, 1, RETURN, 0);
        code(1, LOAD, 0, PUSH, 1, CALL, 2, PUSH, 0, RETURN, 0);
        code(2, PUSH, 5, RETURN, 0);
        x.start(0, 0, 0);
        due("run(2)", x.run(2), 2);
    }

    private static void requestStep() {
        called("6 STEP INTO");
        due("request", x.request(STEP, 0, INTO, 1, 0), 0);
        due("run", x.run(50), 4);
        event("event", 0, STEP, 0, 2, 0);
        due("it is cleared", x.count(5), 0);
        due("it was on no more", x.clear(0), 0);
        called("6 STEP OVER");
        x.request(STEP, 0, OVER, 1, 0);
        due("run", x.run(50), 6);
        event("event", 0, STEP, 0, 1, 3);
        called("6 STEP OUT");
        x.request(STEP, 0, OUT, 1, 0);
        due("run", x.run(50), 8);
        event("event", 0, STEP, 0, 0, 2);
        called("6 STEP OVER at a return");
        x.run(5);
        x.request(STEP, 0, OVER, 1, 0);
        due("run", x.run(50), 3);
        event("event", 0, STEP, 0, 0, 2);
        called("6 STEP INTO at a return");
        x.run(5);
        x.request(STEP, 0, INTO, 1, 0);
        due("run", x.run(50), 3);
        event("event", 0, STEP, 0, 0, 2);
        called("6 STEP of another thread");
        x.start(1, 2, 0);
        x.request(STEP, 1, INTO, 0, 0);
        x.run(50);
        due("no event: it never came to another line", x.count(2), 0);
        due("on", x.count(5), 1);
        ready("6 STEP, back to a line above", 3, PUSH, 0, PUSH, 0, PUSH, 0, ZERO, 0);
        x.request(STEP, 0, OVER, 1, 0);
        due("from line 1 to line 0", x.run(50), 2);
        event("event", 0, STEP, 0, 0, 0);
        ready("6 STEP, round to the next line", 4, PUSH, 0, PUSH, 0, PUSH, 0, ZERO, 0);
        x.request(STEP, 0, OVER, 1, 0);
        due("from line 0 to line 1", x.run(50), 4);
        event("event", 0, STEP, 0, 0, 3);
    }

    private static void requestWatch() {
        ready("6 WATCH", 0, NEW, 0, STORE, 0, LOAD, 0, PUSH, 1, PUT, 1, LOAD, 0, PUSH, 2, PUT, 0, PUSH, 3, RETURN, 0);
        x.request(WATCH, 0, 0, 1, 0);
        x.request(WATCH, 0, 1, 0, 0);
        due("the PUT of field 1 suspends nothing", x.run(50), 8);
        event("event", 1, WATCH, 0, 0, 4);
        due("next", x.next(), 1);
        event("event", 0, WATCH, 0, 0, 7);
        due("it is done", x.frame(0, 0, 1), 8);
        due("reference", x.local(0, 0, 0), REF);
        due("field", x.field(0, 0), 2);
        ready("6 WATCH, a PUT that faults", 0, PUSH, 0, PUSH, 1, PUT, 0);
        x.request(WATCH, 0, 0, 1, 0);
        due("run", x.run(50), 3);
        due("no event", x.count(2), 0);
        due("not suspended", x.thread(0, 1), 0);
    }

    private static void requestException() {
        for (int a = 1; a <= 3; a++) {
            ready("6 EXCEPTION " + a + ", caught", 0, PUSH, 7, THROW, 0);
            x.handler(0, 1);
            x.request(EXCEPTION, a, 0, 1, 0);
            due("steps", x.run(10), a == 2 ? 10 : 2);
            due("events", x.count(2), a == 2 ? 0 : 1);
            ready("6 EXCEPTION " + a + ", not caught", 0, PUSH, 7, THROW, 0);
            x.request(EXCEPTION, a, 0, 1, 0);
            due("steps", x.run(10), 2);
            due("events", x.count(2), a == 1 ? 0 : 1);
            due("suspended", x.thread(0, 1), a == 1 ? 0 : 1);
            due("result", x.result(0), 7);
        }
        begin("6 EXCEPTION, the place is that before the instruction");
        code(0, PUSH, 1, CALL, 3);
        code(3, PUSH, 1, ADD, 0);
        x.handler(0, 5);
        x.start(0, 0, 0);
        x.request(EXCEPTION, 1, 0, 2, 0);
        due("run", x.run(50), 4);
        event("event", 0, EXCEPTION, 0, 3, 1);
        check.row("frame", new long[] {x.frame(0, 0, 0), x.frame(0, 0, 1), x.local(0, 0, 4)}, 0, 5, 1);
        check.row("all are suspended", new long[] {x.thread(0, 1), x.thread(1, 1), x.thread(2, 1)}, 1, 1, 1);
        ready("6 EXCEPTION, fault 4", 0);
        x.request(EXCEPTION, 3, 0, 0, 0);
        due("run", x.run(50), 1);
        event("event", 0, EXCEPTION, 0, 0, 0);
    }

    private static void requestEntry() {
        begin("6 ENTRY");
        code(0, PUSH, 0, CALL, 1, RETURN, 0);
        code(1, LOAD, 1, PUSH, 1, STORE, 1, ZERO, 0, PUSH, 1, RETURN, 0);
        x.start(0, 0, 0);
        x.request(ENTRY, 1, 0, 1, 0);
        due("run", x.run(50), 3);
        event("event", 0, ENTRY, 0, 1, 0);
        due("next", x.next(), 0);
        x.resume(0);
        due("back at instruction 0 is no entry", x.run(50), 11);
        due("events", x.count(2), 0);
        due("again", x.start(0, 1, 0), 1);
        due("a start is one", x.run(50), 1);
        ready("6 ENTRY, a fault does nothing", 0, ADD, 0);
        x.handler(0, 0);
        x.request(ENTRY, 0, 0, 0, 0);
        due("run", x.run(3), 3);
        due("the frame has done none", x.count(2), 3);
        ready("6 ENTRY, only at instruction 0", 0, PUSH, 0);
        x.request(ENTRY, 0, 0, 0, 0);
        x.handler(0, 4);
        x.suspend(0);
        x.raise(0, 1);
        x.resume(0);
        due("run", x.run(1), 1);
        due("events", x.count(2), 0);
    }

    private static void requestPolicy() {
        ready("6 policy, each event suspends", 0, PUSH, 0, RETURN, 0);
        x.request(BREAK, 0, 0, 1, 0);
        x.request(BREAK, 0, 0, 2, 0);
        x.request(ENTRY, 0, 0, 0, 0);
        x.request(ENTRY, 0, 0, 2, 0);
        due("run", x.run(50), 1);
        check.row("counts", new long[] {x.thread(0, 1), x.thread(1, 1), x.thread(2, 1)}, 3, 2, 2);
        for (int i = 0; i < 4; i++) {
            due("by rising numbers", x.event(0), i);
            x.next();
        }
        ready("6 policy 0", 0, PUSH, 0, RETURN, 0);
        x.request(BREAK, 0, 0, 0, 0);
        due("run", x.run(50), 2);
        due("events", x.count(2), 1);
        begin("6 policy 1, a run ends for the other threads too");
        code(0, GOTO, 0);
        x.start(0, 0, 0);
        x.start(1, 0, 0);
        x.request(STEP, 1, OVER, 1, 0);
        x.request(BREAK, 0, 0, 1, 0);
        due("run", x.run(50), 1);
        check.row("counts", new long[] {x.thread(0, 1), x.thread(1, 1), x.thread(2, 1)}, 1, 0, 0);
        ready("6 an event that is lost suspends", 0, GOTO, 0);
        x.request(BREAK, 0, 0, 0, 0);
        due("run", x.run(20), 20);
        x.request(BREAK, 0, 0, 1, 0);
        due("run", x.run(20), 1);
        check.row("lost", new long[] {x.count(2), x.count(3), x.thread(0, 1)}, 20, 2, 1);
    }

    private static void requestSkip() {
        ready("6 skip", 0, GOTO, 0);
        x.request(BREAK, 0, 0, 1, 2);
        due("the third time", x.run(50), 3);
        x.resume(0);
        due("and every time from then on", x.run(50), 2);
        due("events", x.count(2), 2);
        ready("6 skip 9", 0, GOTO, 0);
        x.request(BREAK, 0, 0, 1, 9);
        due("the tenth time", x.run(50), 10);
        ready("6 skip of a STEP", 0, PUSH, 0, PUSH, 0, PUSH, 0, PUSH, 0, PUSH, 0, PUSH, 0, PUSH, 0);
        x.request(STEP, 0, OVER, 1, 2);
        due("it stays on until it fits", x.run(5), 5);
        due("on", x.count(5), 1);
        due("run", x.run(50), 1);
        event("event", 0, STEP, 0, 0, 5);
        due("on", x.count(5), 0);
        ready("6 skip, counted while another request stops", 0, GOTO, 0);
        x.request(BREAK, 0, 0, 1, 0);
        x.request(BREAK, 0, 0, 0, 1);
        due("first", x.run(50), 1);
        x.resume(0);
        due("second", x.run(50), 2);
        due("events", x.count(2), 3);
        ready("6 skip of a WATCH and an EXCEPTION", 0, NEW, 0, PUSH, 1, PUT, 0, THROW, 0);
        x.handler(0, 0);
        x.request(WATCH, 0, 0, 1, 1);
        x.request(EXCEPTION, 1, 0, 1, 1);
        due("the second watch", x.run(50), 4 + 3);
        x.resume(0);
        due("the second throw", x.run(50), 1);
    }

    private static void clear() {
        ready("7 clear", 0, GOTO, 0);
        due("none", x.clear(0), R);
        x.request(BREAK, 0, 0, 1, 0);
        due("-1", x.clear(-1), R);
        due("1", x.clear(1), R);
        due("on", x.clear(0), 1);
        due("off", x.clear(0), 0);
        due("it fits no more", x.run(50), 50);
        due("made", x.count(4), 1);
        due("the next number", x.request(BREAK, 0, 0, 1, 0), 1);
    }

    private static void suspendAndResume() {
        begin("8 suspend");
        due("-1", x.suspend(-1), R);
        due("4", x.suspend(4), R);
        due("1", x.suspend(1), 1);
        due("1", x.suspend(1), 2);
        due("all", x.suspend(3), 1);
        check.row("counts", new long[] {x.thread(0, 1), x.thread(1, 1), x.thread(2, 1)}, 1, 3, 1);
        check.part("9 resume");
        due("-1", x.resume(-1), R);
        due("4", x.resume(4), R);
        due("0", x.resume(0), 0);
        due("0 at 0", x.resume(0), 0);
        due("all", x.resume(3), 0);
        check.row("counts", new long[] {x.thread(0, 1), x.thread(1, 1), x.thread(2, 1)}, 0, 2, 0);
        due("1", x.resume(1), 1);
        due("2", x.suspend(2), 1);
        due("all, thread 0's is told", x.suspend(3), 1);
        due("2", x.resume(2), 1);
    }

    private static void event() {
        begin("10 event");
        for (int what = -1; what <= 5; what++) {
            due("none", x.event(what), R);
        }
        code(3, PUSH, 0, PUSH, 0);
        x.start(2, 3, 0);
        x.request(ENTRY, 0, 0, 0, 0);
        x.request(BREAK, 3, 1, 1, 0);
        x.run(50);
        event("event", 1, BREAK, 2, 3, 1);
        event("it stays", 1, BREAK, 2, 3, 1);
        due("-1", x.event(-1), R);
        due("5", x.event(5), R);
    }

    private static void next() {
        ready("11 next", 0, GOTO, 0);
        x.request(BREAK, 0, 0, 0, 0);
        due("none", x.next(), R);
        x.run(25);
        check.row("a full line", new long[] {x.count(2), x.count(3)}, 20, 5);
        for (int i = 19; i >= 0; i--) {
            due("next", x.next(), i);
        }
        due("none", x.next(), R);
        x.run(50);
        check.row("a full line again", new long[] {x.count(2), x.count(3)}, 20, 35);
        due("next", x.next(), 19);
        x.request(BREAK, 0, 0, 0, 0);
        x.run(1);
        check.row("room for one", new long[] {x.count(2), x.count(3)}, 20, 36);
    }

    private static void frame() {
        called("12 frame");
        due("not suspended", x.frame(0, 0, 0), R);
        x.suspend(0);
        check.row("top", new long[] {x.frame(0, 0, 0), x.frame(0, 0, 1), x.frame(0, 0, 2), x.frame(0, 0, 3)},
            1, 0, 0, 0);
        check.row("below", new long[] {x.frame(0, 1, 0), x.frame(0, 1, 1), x.frame(0, 1, 2), x.frame(0, 1, 3)},
            0, 2, 0, 0);
        due("f -1", x.frame(0, -1, 0), R);
        due("f 2", x.frame(0, 2, 0), R);
        due("f highest", x.frame(0, HIGHEST, 0), R);
        due("f lowest", x.frame(0, LOWEST, 0), R);
        due("what -1", x.frame(0, 0, -1), R);
        due("what 4", x.frame(0, 0, 4), R);
        due("thread -1", x.frame(-1, 0, 0), R);
        due("thread 3", x.frame(3, 0, 0), R);
        x.suspend(1);
        due("no frames", x.frame(1, 0, 0), R);
        still("12 frame, lines", 5, PUSH, 0, PUSH, 0, PUSH, 0, PUSH, 0, PUSH, 0);
        check.row("frame", new long[] {x.frame(0, 0, 1), x.frame(0, 0, 2), x.frame(0, 0, 3)}, 5, 1, 5);
        x.resume(0);
        x.handler(0, 6);
        x.run(1);
        x.suspend(0);
        due("line", x.frame(0, 0, 2), 2);
    }

    private static void local() {
        ready("13 local", 3, PUSH, 4, STORE, 3, PUSH, 6);
        due("not suspended", x.local(0, 0, 3), NONE);
        x.suspend(0);
        due("3", x.local(0, 0, 3), 4);
        due("4", x.local(0, 0, 4), 6);
        due("5", x.local(0, 0, 5), NONE);
        due("-1", x.local(0, 0, -1), NONE);
        due("highest", x.local(0, 0, HIGHEST), NONE);
        due("lowest", x.local(0, 0, LOWEST), NONE);
        due("f 1", x.local(0, 1, 0), NONE);
        due("f -1", x.local(0, -1, 0), NONE);
        due("thread 3", x.local(3, 0, 0), NONE);
        due("thread -1", x.local(-1, 0, 0), NONE);
        x.suspend(1);
        due("no frames", x.local(1, 0, 0), NONE);
        still("13 local, a full stack", 8, PUSH, 0, PUSH, 1, PUSH, 2, PUSH, 3, PUSH, 4, PUSH, 5, PUSH, 6, PUSH, 7);
        due("the highest value", x.local(0, 0, 11), 7);
        due("none above it", x.local(0, 0, 12), NONE);
    }

    private static void ids() {
        still("13 IDs", 3, NEW, 0, NEW, 0, NEW, 0);
        due("none is given", x.count(1), 0);
        due("in the order of the answers", x.local(0, 0, 6), REF);
        due("the next", x.local(0, 0, 4), REF + 1);
        due("the same", x.local(0, 0, 6), REF);
        due("given", x.count(1), 2);
        still("13 IDs, each leads to its own object", 6, NEW, 0, STORE, 1, NEW, 0, STORE, 2, LOAD, 2, PUSH, 7, PUT, 0);
        x.resume(0);
        due("run", x.run(1), 1);
        x.suspend(0);
        due("the object that was made last", x.local(0, 0, 2), REF);
        due("the first one", x.local(0, 0, 1), REF + 1);
        due("its field", x.field(0, 0), 7);
        due("the other's", x.field(1, 0), 0);
        due("set", x.setReference(0, 0, 3, 0), 1);
        due("local", x.local(0, 0, 3), REF);
        begin("13 IDs, 64 at the most");
        code(0, NEW, 0, STORE, 0, GOTO, 0);
        x.start(0, 0, 0);
        for (int i = 0; i < 64; i++) {
            due("run", x.run(3), 3);
            x.suspend(0);
            due("ID " + i, x.local(0, 0, 0), REF + i);
            due("gone", x.collect(), i == 0 ? 0 : 1);
            x.resume(0);
        }
        x.run(3);
        x.suspend(0);
        due("a 65th", x.local(0, 0, 0), NO_ID);
        due("given", x.count(1), 64);
        due("no such ID", x.field(64, 0), NONE);
        due("gone", x.collect(), 1);
        due("there", x.count(0), 1);
        due("gone ones keep their IDs", x.field(63, 0), GONE);
        still("13 IDs, in fields", 6, NEW, 0, STORE, 0, LOAD, 0, NEW, 0, PUT, 1, LOAD, 0);
        due("field before its object's ID", x.field(0, 1), NONE);
        due("object", x.local(0, 0, 0), REF);
        due("field", x.field(0, 1), REF + 1);
        due("given", x.count(1), 2);
    }

    private static void setInt() {
        called("14 setInt");
        due("not suspended", x.setInt(0, 0, 0, 5), R);
        x.suspend(0);
        due("top", x.setInt(0, 0, 0, LOWEST), 1);
        due("below", x.setInt(0, 1, 3, HIGHEST), 1);
        due("top", x.local(0, 0, 0), LOWEST);
        due("below", x.local(0, 1, 3), HIGHEST);
        due("below 0", x.local(0, 1, 0), 0);
        due("k -1", x.setInt(0, 0, -1, 5), R);
        due("k 4", x.setInt(0, 0, 4, 5), R);
        due("f -1", x.setInt(0, -1, 0, 5), R);
        due("f 2", x.setInt(0, 2, 0, 5), R);
        due("thread -1", x.setInt(-1, 0, 0, 5), R);
        due("thread 3", x.setInt(3, 0, 0, 5), R);
        due("a thread without frames", x.suspend(1) + x.setInt(1, 0, 0, 5), R + 1);
        still("14 setInt, the stack is not set", 1, PUSH, 3);
        due("k 4", x.setInt(0, 0, 4, 5), R);
        due("stack", x.local(0, 0, 4), 3);
        x.setInt(0, 0, 2, 7);
        code(0, LOAD, 2, RETURN, 0);
        x.resume(0);
        x.run(9);
        due("the machine sees it", x.result(0), 7);
    }

    private static void setReference() {
        still("15 setReference", 2, NEW, 0, STORE, 1, LOAD, 2, GET, 0, RETURN, 0);
        due("no such ID", x.setReference(0, 0, 2, 0), R);
        due("no ID was given", x.count(1), 0);
        due("ID", x.local(0, 0, 1), REF);
        due("0", x.setReference(0, 0, 2, 0), 1);
        due("1", x.setReference(0, 0, 2, 1), R);
        due("-2", x.setReference(0, 0, 2, -2), R);
        due("64", x.setReference(0, 0, 2, 64), R);
        due("lowest", x.setReference(0, 0, 2, LOWEST), R);
        due("k -1", x.setReference(0, 0, -1, 0), R);
        due("k 4", x.setReference(0, 0, 4, 0), R);
        due("f 1", x.setReference(0, 1, 0, 0), R);
        due("f -1", x.setReference(0, -1, 0, -1), R);
        due("thread 3", x.setReference(3, 0, 0, -1), R);
        due("thread -1", x.setReference(-1, 0, 0, -1), R);
        due("local", x.local(0, 0, 2), REF);
        due("to none", x.setReference(0, 0, 3, -1), 1);
        due("none", x.local(0, 0, 3), TO_NONE);
        x.resume(0);
        due("not suspended", x.setReference(0, 0, 3, 0), R);
        due("run", x.run(3), 3);
        due("the machine sees it", x.result(0), 0);
        still("15 setReference, gone", 2, NEW, 0, STORE, 1);
        x.local(0, 0, 1);
        x.setInt(0, 0, 1, 0);
        due("collect", x.collect(), 1);
        due("gone", x.setReference(0, 0, 1, 0), R);
        due("local", x.local(0, 0, 1), 0);
    }

    private static void field() {
        still("16 field", 5, NEW, 0, STORE, 1, LOAD, 1, PUSH, 9, PUT, 1);
        due("no such ID", x.field(0, 0), NONE);
        x.local(0, 0, 1);
        due("0", x.field(0, 0), 0);
        due("1", x.field(0, 1), 9);
        due("2", x.field(0, 2), NONE);
        due("-1", x.field(0, -1), NONE);
        due("ID -1", x.field(-1, 0), NONE);
        due("ID 1", x.field(1, 0), NONE);
        due("ID 64", x.field(64, 0), NONE);
        x.resume(0);
        due("of a thread that runs", x.field(0, 1), 9);
        x.suspend(0);
        x.setInt(0, 0, 1, 0);
        x.collect();
        due("gone", x.field(0, 1), GONE);
        due("gone, but no such field", x.field(0, 2), NONE);
        still("16 field to none", 3, NEW, 0, STORE, 1, LOAD, 1, LOAD, 2, PUT, 0, GOTO, 5);
        x.local(0, 0, 1);
        x.setReference(0, 0, 2, -1);
        x.resume(0);
        x.run(2);
        due("field", x.field(0, 0), TO_NONE);
    }

    private static void pin() {
        still("17 pin", 2, NEW, 0, STORE, 1);
        due("no such ID", x.pin(0, true), R);
        x.local(0, 0, 1);
        due("-1", x.pin(-1, true), R);
        due("1", x.pin(1, true), R);
        due("not yet", x.pin(0, false), 0);
        due("on", x.pin(0, true), 1);
        due("on again", x.pin(0, true), 0);
        due("pinned", x.count(7), 1);
        x.setInt(0, 0, 1, 0);
        due("it is held", x.collect(), 0);
        due("off", x.pin(0, false), 1);
        due("off again", x.pin(0, false), 0);
        due("pinned", x.count(7), 0);
        due("it is not held", x.collect(), 1);
        due("gone, on", x.pin(0, true), R);
        due("gone, off", x.pin(0, false), R);
    }

    private static void collect() {
        still("18 collect, a chain and a ring", 10,
            NEW, 0, STORE, 1, NEW, 0, STORE, 2, LOAD, 1, LOAD, 2, PUT, 0, LOAD, 2, LOAD, 1, PUT, 1);
        due("IDs", x.local(0, 0, 1) + x.local(0, 0, 2), REF + REF + 1);
        due("nothing", x.collect(), 0);
        x.setInt(0, 0, 1, 0);
        due("by the other's field", x.collect(), 0);
        x.setInt(0, 0, 2, 0);
        x.pin(1, true);
        due("by a pinned one's field", x.collect(), 0);
        due("there", x.count(0), 2);
        x.pin(1, false);
        due("a ring that nothing comes to", x.collect(), 2);
        due("there", x.count(0), 0);
        due("gone", x.field(0, 0), GONE);
        due("again", x.collect(), 0);
        still("18 collect, IDs are not given again", 1, NEW, 0, STORE, 1, NEW, 0, STORE, 2);
        due("ID", x.local(0, 0, 4), REF);
        x.resume(0);
        x.run(1);
        x.suspend(0);
        x.setInt(0, 0, 1, 0);
        due("collect", x.collect(), 1);
        x.resume(0);
        x.run(2);
        x.suspend(0);
        due("the next ID", x.local(0, 0, 2), REF + 1);
        due("the old one", x.field(0, 0), GONE);
        due("not pinned", x.pin(1, false), 0);
        due("fields 0 at first", x.field(1, 0), 0);
        for (int field = 0; field < 2; field++) {
            still("18 collect, along field " + field, 4, NEW, 0, STORE, 1, LOAD, 1, NEW, 0, PUT, field, GOTO, 5);
            x.resume(0);
            due("run", x.run(1), 1);
            x.suspend(0);
            due("held", x.collect(), 0);
            x.setInt(0, 0, 1, 0);
            due("not held", x.collect(), 2);
        }
        still("18 collect, a new object has nothing of one that is gone", 8,
            NEW, 0, STORE, 1, LOAD, 1, PUSH, 5, PUT, 0, LOAD, 1, PUSH, 6, PUT, 1, NEW, 0, STORE, 1);
        x.setInt(0, 0, 1, 0);
        due("collect", x.collect(), 1);
        x.resume(0);
        x.run(2);
        x.suspend(0);
        due("ID", x.local(0, 0, 1), REF);
        due("field 0", x.field(0, 0), 0);
        due("field 1", x.field(0, 1), 0);
        still("18 collect, what was on a stack holds nothing", 2, NEW, 0, STORE, 1);
        x.setInt(0, 0, 1, 0);
        due("collect", x.collect(), 1);
    }

    private static void collectRoots() {
        begin("18 collect, arguments, stacks below, other threads");
        code(0, NEW, 0, NEW, 0, CALL, 1);
        code(1, PUSH, 0, STORE, 0);
        x.start(1, 0, 0);
        due("run", x.run(5), 5);
        due("a stack below and an argument hold", x.collect(), 0);
        x.suspend(1);
        due("local 0 is set", x.local(1, 0, 0), 0);
        due("pop", x.pop(1, 0), 1);
        due("held still", x.collect(), 0);
        due("stack", x.frame(1, 0, 3), 2);
        x.raise(1, 0);
        due("collect", x.collect(), 2);
        begin("18 collect, results");
        code(0, NEW, 0, RETURN, 0);
        x.start(2, 0, 0);
        x.run(9);
        due("a result holds", x.collect(), 0);
        due("result", x.result(2), REF);
        due("start", x.start(2, 1, 0), 1);
        due("a result that is no more does not", x.collect(), 1);
    }

    private static void pop() {
        called("19 pop");
        due("not suspended", x.pop(0, 0), R);
        due("run", x.run(3), 3);
        x.suspend(0);
        due("three frames", x.thread(0, 0), 3);
        due("f -1", x.pop(0, -1), R);
        due("f 2: none below", x.pop(0, 2), R);
        due("f 3", x.pop(0, 3), R);
        due("f highest", x.pop(0, HIGHEST), R);
        due("thread -1", x.pop(-1, 0), R);
        due("thread 3", x.pop(3, 0), R);
        x.setInt(0, 0, 0, 77);
        due("pop", x.pop(0, 0), 2);
        check.row("frame", new long[] {x.frame(0, 0, 0), x.frame(0, 0, 1), x.frame(0, 0, 3), x.local(0, 0, 5)},
            1, 2, 2, 1);
        due("pop", x.pop(0, 0), 1);
        check.row("frame", new long[] {x.frame(0, 0, 0), x.frame(0, 0, 1), x.frame(0, 0, 3), x.local(0, 0, 4)},
            0, 1, 1, 1);
        due("one frame only", x.pop(0, 0), R);
        x.resume(0);
        due("it calls again", x.run(1), 1);
        x.suspend(0);
        due("local 0", x.local(0, 0, 0), 1);
        called("19 pop of two");
        x.run(3);
        x.suspend(0);
        due("pop", x.pop(0, 1), 1);
        due("the argument of the lowest", x.local(0, 0, 4), 1);
        called("19 pop, not having stopped");
        x.request(BREAK, 1, 0, 1, 0);
        x.request(BREAK, 0, 1, 0, 0);
        due("stops", x.run(50), 1);
        due("pop", x.pop(0, 0), 1);
        x.resume(0);
        due("looks at its place, calls, and stops", x.run(50), 2);
        x.next();
        event("event", 1, BREAK, 0, 0, 1);
        due("events", x.count(2), 2);
        begin("19 pop at a full stack");
        code(0, PUSH, 0, PUSH, 0, PUSH, 0, PUSH, 0, PUSH, 0, PUSH, 0, PUSH, 0, PUSH, 8, CALL, 1);
        x.start(0, 0, 0);
        x.run(9);
        x.suspend(0);
        due("pop", x.pop(0, 0), 1);
        due("values", x.frame(0, 0, 3), 8);
        due("argument", x.local(0, 0, 11), 8);
    }

    private static void force() {
        called("20 force");
        due("not suspended", x.force(0, 4), R);
        x.suspend(0);
        due("thread -1", x.force(-1, 4), R);
        due("thread 3", x.force(3, 4), R);
        due("force", x.force(0, LOWEST), 1);
        check.row("frame", new long[] {x.frame(0, 0, 0), x.frame(0, 0, 1), x.frame(0, 0, 3), x.local(0, 0, 4)},
            0, 2, 1, LOWEST);
        due("the last one", x.force(0, HIGHEST), 0);
        due("over", x.thread(0, 2), 2);
        due("result", x.result(0), HIGHEST);
        due("no frames", x.force(0, 4), R);
        called("20 force, not having stopped");
        x.request(BREAK, 1, 0, 1, 0);
        x.request(BREAK, 0, 2, 1, 0);
        due("stops", x.run(50), 1);
        due("force", x.force(0, 4), 1);
        x.resume(0);
        due("stops at once", x.run(50), 1);
        x.next();
        event("event", 1, BREAK, 0, 0, 2);
    }

    private static void raise() {
        called("21 raise");
        due("not suspended", x.raise(0, 4), R);
        x.suspend(0);
        due("thread -1", x.raise(-1, 4), R);
        due("thread 3", x.raise(3, 4), R);
        x.request(EXCEPTION, 3, 0, 1, 0);
        x.handler(0, 3);
        due("caught below", x.raise(0, 4), 1);
        check.row("frame", new long[] {x.frame(0, 0, 0), x.frame(0, 0, 1), x.frame(0, 0, 3), x.local(0, 0, 4)},
            0, 3, 1, 4);
        x.handler(0, -1);
        due("not caught", x.raise(0, LOWEST), 0);
        due("result", x.result(0), LOWEST);
        due("no events", x.count(2), 0);
        due("no suspend", x.thread(0, 1), 1);
        due("no frames", x.raise(0, 4), R);
        ready("21 raise, not having stopped", 0, PUSH, 0, GOTO, 1);
        x.handler(0, 0);
        x.request(BREAK, 0, 0, 1, 0);
        due("stops", x.run(50), 1);
        due("raise", x.raise(0, 4), 1);
        x.resume(0);
        due("stops again", x.run(50), 1);
        due("events", x.count(2), 2);
    }

    private static void result() {
        begin("22 result");
        due("idle", x.result(0), NONE);
        due("thread -1", x.result(-1), NONE);
        due("thread 3", x.result(3), NONE);
        code(0, LOAD, 0, RETURN, 0);
        x.start(1, 0, -5);
        due("with frames", x.result(1), NONE);
        x.run(9);
        due("over", x.result(1), -5);
        due("over", x.result(1), -5);
        still("22 result, the reference to none", 0, LOAD, 0, RETURN, 0);
        x.setReference(0, 0, 0, -1);
        x.resume(0);
        x.run(9);
        due("result", x.result(0), TO_NONE);
    }

    private static void thread() {
        called("23 thread");
        x.suspend(0);
        check.row("0", new long[] {x.thread(0, 0), x.thread(0, 1), x.thread(0, 2)}, 2, 1, 1);
        x.raise(0, 1);
        check.row("0", new long[] {x.thread(0, 0), x.thread(0, 1), x.thread(0, 2)}, 0, 1, 2);
        check.row("1", new long[] {x.thread(1, 0), x.thread(1, 1), x.thread(1, 2)}, 0, 0, 0);
        due("what -1", x.thread(0, -1), R);
        due("what 3", x.thread(0, 3), R);
        due("thread -1", x.thread(-1, 0), R);
        due("thread 3", x.thread(3, 0), R);
    }

    private static void count() {
        still("24 count", 3, NEW, 0, NEW, 0, STORE, 1, GOTO, 3);
        x.local(0, 0, 1);
        x.pin(0, true);
        x.request(BREAK, 0, 3, 0, 0);
        x.request(BREAK, 0, 0, 0, 0);
        x.clear(1);
        x.resume(0);
        x.run(23);
        counts("count", 2, 1, 20, 3, 2, 1, 26, 1);
        due("what -1", x.count(-1), R);
        due("what 8", x.count(8), R);
    }
}
