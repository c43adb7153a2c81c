import java.util.function.Supplier;

/**
 * The boundary cases of each call, promise by promise: the last number in range and the first one out of it on both
 * sides, nothing there and everything full, and that a refused call changes nothing.
 */
public final class CallEdgesTest extends Edges {
    public static void main(String[] args) {
        check = new Check("CallEdgesTest");
        newObject();
        instr();
        instrOfX();
        instrWhenFull();
        handler();
        start();
        startOfOneWithFrames();
        run();
        request();
        requestOfEachKind();
        requestOfAStep();
        requestWhenFull();
        clear();
        suspend();
        resume();
        event();
        next();
        frame();
        frameOfSix();
        notStill();
        local();
        localOfAStack();
        setInt();
        setReference();
        field();
        pin();
        collectNothingAndAll();
        collectAlongChains();
        collectFromEachRoot();
        collectAndNewOnes();
        pop();
        popOfSix();
        popWithAFullStack();
        force();
        raise();
        notHavingStopped();
        result();
        thread();
        count();
        end();
    }

    /** Thread 0 has six frames, all of method 0 and with arguments 1 to 6 from the lowest on; it is still. */
    private static Counted sixFrames() {
        Counted x = new Counted().code(0, LOAD, 0, PUSH, 1, ADD, 0, CALL, 0, RETURN, 0);
        x.start(0, 0, 1);
        make(x, 20);
        x.suspend(0);
        return x;
    }

    /** All three threads are suspended; 0 is idle, 1 has frames, 2 is over. */
    private static Counted suspended() {
        Counted x = new Counted().code(0, PUSH, 7, RETURN, 0).code(1, GOTO, 0);
        x.start(2, 0, 0);
        make(x, 2);
        x.start(1, 1, 0);
        x.suspend(3);
        return x;
    }

    private static void newObject() {
        sentence("1: makes an object in the state that the terms give");
        Counted x = new Counted();
        for (int what = 0; what < 8; what++) {
            due("count " + what, x.count(what), 0);
        }
        for (int method = 0; method < 6; method++) {
            due("no handler", x.handler(method, -1), -1);
            due("no instructions", x.instr(method, PUSH, 0), 1);
        }
        row("nothing is there", of(x.run(1), x.run(50), x.collect(), x.event(0), x.next(), x.clear(0), x.pin(0, true)),
            0, 0, 0, R, R, R, R);
        row("nor for a long", of(x.field(0, 0), x.result(0), x.result(1), x.result(2), x.local(0, 0, 0)),
            NONE, NONE, NONE, NONE, NONE);
        Counted other = new Counted();
        other.code(0, GOTO, 0);
        other.start(0, 0, 0);
        due("one object's state is not another's", x.thread(0, 2), 0);
    }

    private static void instr() {
        sentence("2: Method not 0 .. 5, op not 0 .. 12: REFUSED");
        range("method", 0, 5, Edges::busy, (x, n) -> x.instr(n, NEW, 0));
        range("op", 0, 12, Edges::busy, (x, n) -> x.instr(5, n, 0));
        Counted x = new Counted();
        for (int method = 0; method < 6; method++) {
            due("each method has its own", x.instr(method, NEW, 0), 1);
        }
        due("answers how many it has then", x.instr(5, NEW, 0), 2);
    }

    private static void instrOfX() {
        sentence("2: x not -1000 .. 1000 for PUSH, 0 .. 3 for LOAD and STORE, ..: REFUSED");
        int[][] ranges = {{PUSH, -1000, 1000}, {LOAD, 0, 3}, {STORE, 0, 3}, {GET, 0, 1}, {PUT, 0, 1}, {CALL, 0, 5},
            {GOTO, 0, 11}, {ZERO, 0, 11}};
        for (int[] r : ranges) {
            range("x of op " + r[0], r[1], r[2], Edges::busy, (x, n) -> x.instr(5, r[0], n));
        }
        sentence("2: anything for others");
        for (int op : new int[] {ADD, LESS, NEW, RETURN, THROW}) {
            Counted x = new Counted();
            int many = 0;
            for (int n : new int[] {LOWEST, -1001, -1, 0, 12, 1001, HIGHEST}) {
                many++;
                due("op " + op + ", x " + n, x.instr(0, op, n), many);
            }
        }
        due("it means nothing", resultOf(new Counted().code(0, PUSH, 1, PUSH, 2, ADD, HIGHEST, RETURN, LOWEST)), 3);
        due("it means nothing", resultOf(new Counted().code(0, PUSH, 1, PUSH, 2, LESS, -1, THROW, HIGHEST)), 1);
    }

    private static long resultOf(Counted x) {
        x.start(0, 0, 0);
        x.run(50);
        return x.result(0);
    }

    private static Counted fullMethod() {
        Counted x = busy();
        for (int i = 1; i <= 12; i++) {
            due("instr", x.instr(5, NEW, 0), i);
        }
        return x;
    }

    private static void instrWhenFull() {
        sentence("2: or it has 12: REFUSED");
        for (int op = 0; op <= 12; op++) {
            int asked = op;
            refused("a 13th, op " + op, CallEdgesTest::fullMethod, x -> x.instr(5, asked, 0));
        }
        refused("a wrong one", CallEdgesTest::fullMethod, x -> x.instr(5, 13, 0));
        due("another method has room", fullMethod().instr(4, NEW, 0), 2);
        Counted x = new Counted();
        for (int method = 0; method < 6; method++) {
            for (int i = 0; i < 10; i++) {
                x.instr(method, i % 2 == 0 ? PUSH : STORE, i % 4);
            }
            x.code(method, PUSH, method, RETURN, 0, PUSH, 50, GOTO, 0);
        }
        for (int method = 0; method < 6; method++) {
            x.start(0, method, 0);
            due("full methods do what they did, " + method, x.run(50), 12);
            due("result", x.result(0), method);
        }
    }

    private static void handler() {
        sentence("3: Sets the handler of a method (0 .. 11), or none (-1); answers the one before. REFUSED.");
        range("method", 0, 5, Edges::busy, (x, n) -> x.handler(n, 3));
        range("at", -1, 11, Edges::busy, (x, n) -> x.handler(5, n));
        Counted x = new Counted();
        int before = -1;
        for (int at : new int[] {0, 11, -1, -1, 11, 11, 0, -1}) {
            due("the one before", x.handler(3, at), before);
            before = at;
        }
        due("each method has its own", x.handler(2, 0) + x.handler(4, 0), -2);
        for (int at : new int[] {0, 11}) {
            x = still(0, PUSH, 0);
            x.handler(0, at);
            row("raise goes there", of(x.raise(0, 5), x.frame(0, 0, 1)), 1, at);
        }
    }

    private static void start() {
        sentence("4: Out of range: REFUSED. Its suspend count stays.");
        range("thread", 0, 2, () -> new Counted().code(0, GOTO, 0), (x, n) -> x.start(n, 0, 0));
        range("method", 0, 5, () -> new Counted().code(0, GOTO, 0), (x, n) -> x.start(0, n, 0));
        range("method of one that is over", 0, 5, Edges::busy, (x, n) -> x.start(2, n, 0));
        for (int value : new int[] {LOWEST, R, -1, 0, HIGHEST}) {
            Counted x = new Counted();
            due("any value", x.start(0, 0, value), 0);
            x.suspend(0);
            due("local 0", x.local(0, 0, 0), value);
        }
        sentence("4: answers 1 if it had been over, else 0");
        Counted x = new Counted();
        x.suspend(1);
        x.suspend(1);
        due("idle", x.start(1, 0, 0), 0);
        row("it is still at once", of(x.thread(1, 1), x.frame(1, 0, 0), x.run(50)), 2, 0, 0);
        due("over by force", x.force(1, 0) + x.start(1, 0, 0), 1);
        due("over by raise", x.raise(1, 0) + x.start(1, 0, 0), 1);
        due("count", x.thread(1, 1), 2);
        x.resume(1);
        x.resume(1);
        due("over by a fault", x.run(50) + x.start(1, 0, 0), 2);
        due("count", x.thread(1, 1), 0);
    }

    private static void startOfOneWithFrames() {
        sentence("4: or it has frames: REFUSED");
        refused("one that is still", Edges::busy, x -> x.start(0, 0, 0));
        refused("one that runs", Edges::busy, x -> x.start(1, 0, 0));
        refused("one with six", CallEdgesTest::sixFrames, x -> x.start(0, 0, 0));
        refused("one that has done nothing yet", () -> started(GOTO, 0), x -> x.start(0, 0, 0));
    }

    private static void run() {
        sentence("5: Makes at most n (1 .. 50) steps; REFUSED.");
        range("n", 1, 50, Edges::busy, (x, n) -> x.run(n));
        range("n, with no thread that could", 1, 50, Counted::new, (x, n) -> x.run(n));
        for (int n : new int[] {1, 2, 49, 50}) {
            Counted x = started(GOTO, 0);
            due("run(" + n + ")", x.run(n), n);
            due("steps", x.count(6), n);
        }
        sentence("5: Fewer if no thread can make one, or the run ends");
        Counted x = new Counted();
        due("all idle", x.run(50), 0);
        x.start(0, 0, 0);
        x.suspend(0);
        due("suspended", x.run(50), 0);
        x.resume(0);
        due("over by its first step", x.run(50), 1);
        due("over", x.run(50), 0);
        due("steps", x.count(6), 1);
        for (int n : new int[] {2, 3, 50}) {
            x = started(PUSH, 1, PUSH, 2, RETURN, 0);
            due("three steps, " + n, x.run(n), Math.min(n, 3));
        }
        sentence("5: answers how many were made, one that (1) ended counting too");
        for (int n : new int[] {2, 3, 50}) {
            x = started(PUSH, 1, PUSH, 2, RETURN, 0);
            x.request(BREAK, 0, 2, 1, 0);
            due("stopped by the third, " + n, x.run(n), Math.min(n, 3));
            row("steps, events", of(x.count(6), x.count(2)), Math.min(n, 3), n == 2 ? 0 : 1);
        }
    }

    private static void request() {
        sentence("6: kind not 0 .. 4; policy not 0 .. 2; skip not 0 .. 9: REFUSED");
        range("kind", 0, 4, Edges::busy, (x, n) -> x.request(n, 1, 1, 0, 0));
        for (int kind = 0; kind <= 4; kind++) {
            int asked = kind;
            range("policy of kind " + kind, 0, 2, Edges::busy, (x, n) -> x.request(asked, 1, 1, n, 0));
            range("skip of kind " + kind, 0, 9, Edges::busy, (x, n) -> x.request(asked, 1, 1, 0, n));
        }
    }

    private static void requestOfEachKind() {
        sentence("6: a not 0 .. 5 (0, 4), 0 .. 2 (1), 1 .. 3 (3); b not 0 .. 11 (0), 0 .. 2 (1), 0 .. 1 (2)");
        Supplier<Counted> allStarted = () -> {
            Counted x = busy();
            x.start(2, 4, 0);
            return x;
        };
        range("a of BREAK", 0, 5, Edges::busy, (x, n) -> x.request(BREAK, n, 0, 1, 0));
        range("b of BREAK", 0, 11, Edges::busy, (x, n) -> x.request(BREAK, 0, n, 1, 0));
        range("a of STEP", 0, 2, allStarted, (x, n) -> x.request(STEP, n, 0, 1, 0));
        range("b of STEP", 0, 2, allStarted, (x, n) -> x.request(STEP, 0, n, 1, 0));
        range("b of WATCH", 0, 1, Edges::busy, (x, n) -> x.request(WATCH, 0, n, 1, 0));
        range("a of EXCEPTION", 1, 3, Edges::busy, (x, n) -> x.request(EXCEPTION, n, 0, 1, 0));
        range("a of ENTRY", 0, 5, Edges::busy, (x, n) -> x.request(ENTRY, n, 0, 1, 0));
        sentence("6: a of WATCH, b of EXCEPTION and b of ENTRY have no range");
        for (int n : new int[] {LOWEST, -1, 0, 12, HIGHEST}) {
            due("a of WATCH " + n, busy().request(WATCH, n, 0, 1, 0), 3);
            due("b of EXCEPTION " + n, busy().request(EXCEPTION, 1, n, 1, 0), 3);
            due("b of ENTRY " + n, busy().request(ENTRY, 0, n, 1, 0), 3);
        }
    }

    private static void requestOfAStep() {
        sentence("6: a STEP of a thread without frames: REFUSED");
        for (int depth = 0; depth <= 2; depth++) {
            int asked = depth;
            refused("one that is over", Edges::busy, x -> x.request(STEP, 2, asked, 1, 0));
            refused("one that is idle", CallEdgesTest::suspended, x -> x.request(STEP, 0, asked, 1, 0));
            refused("all idle", Counted::new, x -> x.request(STEP, 1, asked, 1, 0));
            due("one that is still", busy().request(STEP, 0, asked, 1, 0), 3);
            due("one that runs", busy().request(STEP, 1, asked, 1, 0), 3);
        }
    }

    private static Counted allRequestsMade() {
        Counted x = busy();
        for (int i = 3; i < 16; i++) {
            due("request", x.request(ENTRY, 5, 0, 0, 0), i);
        }
        return x;
    }

    private static void requestWhenFull() {
        sentence("6: or 16 were made: REFUSED");
        int[][] right = {{BREAK, 4, 0}, {STEP, 1, 0}, {WATCH, 0, 0}, {EXCEPTION, 3, 0}, {ENTRY, 4, 0}};
        for (int[] r : right) {
            refused("a 17th of kind " + r[0], CallEdgesTest::allRequestsMade, x -> x.request(r[0], r[1], r[2], 1, 0));
        }
        refused("a wrong one", CallEdgesTest::allRequestsMade, x -> x.request(5, 0, 0, 0, 0));
        Counted x = allRequestsMade();
        row("a clear makes no room", of(x.clear(15), x.request(ENTRY, 4, 0, 1, 0)), 1, R);
    }

    private static void clear() {
        sentence("7: The request is on no more: 1 if it was on, else 0. No such one: REFUSED.");
        range("of three", 0, 2, Edges::busy, (x, n) -> x.clear(n));
        range("of sixteen", 0, 15, CallEdgesTest::allRequestsMade, (x, n) -> x.clear(n));
        range("of one", 0, 0, CallEdgesTest::oneRequest, (x, n) -> x.clear(n));
        refused("of none", Counted::new, x -> x.clear(0));
        Counted x = busy();
        row("on, cleared, again", of(x.clear(0), x.clear(1), x.clear(0), x.clear(2), x.count(5)), 1, 0, 0, 1, 0);
        x = started(GOTO, 1, GOTO, 2, GOTO, 3, GOTO, 3);
        x.request(STEP, 0, OVER, 1, 0);
        x.run(50);
        due("a STEP that fitted", x.clear(0), 0);
    }

    private static Counted oneRequest() {
        Counted x = started(GOTO, 0);
        x.request(BREAK, 0, 0, 1, 0);
        return x;
    }

    private static void suspend() {
        sentence("8: Adds 1 to the suspend count of a thread (0 .. 2), or, for 3, of all; REFUSED");
        range("thread", 0, 3, Edges::busy, (x, n) -> x.suspend(n));
        for (int thread = 0; thread < 3; thread++) {
            Counted x = new Counted();
            long[] due = new long[3];
            for (int i = 1; i <= 4; i++) {
                due("thread " + thread, x.suspend(thread), i);
                due[thread] = i;
                row("its own alone", suspendCounts(x), due);
            }
        }
        sentence("8: answers the thread's count, for 3 that of thread 0");
        Counted x = new Counted();
        row("others have more", of(x.suspend(1), x.suspend(1), x.suspend(2), x.suspend(3)), 1, 2, 1, 1);
        row("counts", suspendCounts(x), 1, 3, 2);
        row("0 has more", of(x.suspend(0), x.suspend(0), x.suspend(0), x.suspend(3)), 2, 3, 4, 5);
        row("counts", suspendCounts(x), 5, 4, 3);
        for (int i = 0; i < 400; i++) {
            x.suspend(3);
        }
        row("there is no highest one", suspendCounts(x), 405, 404, 403);
    }

    private static void resume() {
        sentence("9: Takes 1 from the suspend count, where it is above 0, of a thread, or of all (3); REFUSED");
        range("thread", 0, 3, CallEdgesTest::suspended, (x, n) -> x.resume(n));
        range("thread, with counts of 0", 0, 3, Counted::new, (x, n) -> x.resume(n));
        for (int thread = 0; thread < 3; thread++) {
            Counted x = new Counted();
            due("at 0", x.resume(thread), 0);
            x.suspend(3);
            x.suspend(thread);
            row("down to 0 and no further", of(x.resume(thread), x.resume(thread), x.resume(thread)), 1, 0, 0);
            long[] due = {1, 1, 1};
            due[thread] = 0;
            row("its own alone", suspendCounts(x), due);
            due("up again from 0", x.suspend(thread), 1);
        }
        Counted x = new Counted();
        x.suspend(1);
        x.suspend(2);
        x.suspend(2);
        row("all, answers thread 0's", of(x.resume(3)), 0);
        row("counts", suspendCounts(x), 0, 0, 1);
        due("all at 0 but one", x.resume(3), 0);
        due("all at 0", x.resume(3), 0);
        row("counts", suspendCounts(x), 0, 0, 0);
        x.suspend(0);
        x.suspend(0);
        due("all, thread 0's is above 0", x.resume(3), 1);
    }

    private static void event() {
        sentence("10: REFUSED for another what, or if there is none");
        range("what", 0, 4, Edges::busy, (x, n) -> x.event(n));
        for (int what = -1; what <= 5; what++) {
            int asked = what;
            refused("none, what " + what, CallEdgesTest::oneRequest, x -> x.event(asked));
        }
        Counted x = oneRequest();
        x.run(1);
        row("one", event(x), 0, BREAK, 0, 0, 0);
        row("it is not taken", of(x.count(2), x.event(1), x.count(2)), 1, BREAK, 1);
        due("it is taken", x.next(), 0);
        due("none is left", x.event(0), R);
    }

    private static void next() {
        sentence("11: Takes the first event out; answers how many are left. REFUSED if there is none.");
        refused("none", CallEdgesTest::oneRequest, x -> x.next());
        refused("none in a new object", Counted::new, x -> x.next());
        Counted x = oneRequest();
        x.run(1);
        row("one", of(x.next(), x.next(), x.count(2)), 0, R, 0);
        x = started(GOTO, 1, GOTO, 2, GOTO, 3, GOTO, 0);
        for (int at = 0; at < 4; at++) {
            x.request(BREAK, 0, at, 0, 0);
        }
        make(x, 22);
        for (int i = 0; i < 20; i++) {
            row("of a full line", of(x.event(4), x.next()), i % 4, 19 - i);
        }
        due("none", x.next(), R);
    }

    private static void frame() {
        sentence("12: REFUSED for other threads, frames or whats");
        range("thread of three that are still", 0, 2, CallEdgesTest::allStill, (x, n) -> x.frame(n, 0, 0));
        range("f of three", 0, 2, Edges::busy, (x, n) -> x.frame(0, n, 1));
        range("f of one", 0, 0, () -> still(0, GOTO, 0), (x, n) -> x.frame(0, n, 1));
        range("what", 0, 3, Edges::busy, (x, n) -> x.frame(0, 1, n));
        Counted x = busy();
        row("top", of(x.frame(0, 0, 0), x.frame(0, 0, 1), x.frame(0, 0, 2), x.frame(0, 0, 3)), 2, 6, 2, 2);
        row("below", of(x.frame(0, 1, 0), x.frame(0, 1, 1), x.frame(0, 1, 2), x.frame(0, 1, 3)), 1, 5, 1, 1);
        row("lowest", of(x.frame(0, 2, 0), x.frame(0, 2, 1), x.frame(0, 2, 2), x.frame(0, 2, 3)), 0, 4, 1, 0);
        x = still(8, FULL_STACK);
        due("values of a full stack", x.frame(0, 0, 3), 8);
    }

    private static Counted allStill() {
        Counted x = new Counted().code(0, PUSH, 1, PUSH, 2, GOTO, 2);
        for (int thread = 0; thread < 3; thread++) {
            x.start(thread, 0, thread);
        }
        x.run(9);
        x.suspend(3);
        return x;
    }

    private static void frameOfSix() {
        sentence("12: Of frame f (from 0, the top one)");
        range("f of six", 0, 5, CallEdgesTest::sixFrames, (x, n) -> x.frame(0, n, 1));
        Counted x = sixFrames();
        for (int f = 0; f < 6; f++) {
            row("frame " + f, of(x.frame(0, f, 1), x.local(0, f, 0)), f == 0 ? 0 : 4, 6 - f);
        }
    }

    private static void notStill() {
        sentence("A thread is STILL if it has frames and a suspend count above 0");
        for (int thread : new int[] {1, 2}) {
            String which = thread == 1 ? "one that runs" : "one that is over";
            refusedUnlessStill(which, Edges::busy, thread);
        }
        for (int thread : new int[] {0, 2}) {
            refusedUnlessStill("suspended, but " + (thread == 0 ? "idle" : "over"), CallEdgesTest::suspended, thread);
        }
        Supplier<Counted> resumed = () -> {
            Counted x = busy();
            x.resume(0);
            return x;
        };
        refusedUnlessStill("resumed", resumed, 0);
        for (int n : new int[] {-1, 3, LOWEST, HIGHEST}) {
            refusedUnlessStill("thread " + n, CallEdgesTest::allStill, n);
        }
        Counted x = suspended();
        row("suspended, with frames", of(x.frame(1, 0, 0), x.local(1, 0, 0), x.setInt(1, 0, 0, 4),
            x.setReference(1, 0, 1, -1), x.raise(1, 4)), 1, 0, 1, 1, 0);
        due("force", suspended().force(1, 0), 0);
    }

    private static void refusedUnlessStill(String which, Supplier<Counted> made, int thread) {
        refused("frame, " + which, made, x -> x.frame(thread, 0, 0));
        refused("local, " + which, NONE, made, x -> x.local(thread, 0, 0));
        refused("setInt, " + which, made, x -> x.setInt(thread, 0, 0, 4));
        refused("setReference, " + which, made, x -> x.setReference(thread, 0, 0, -1));
        refused("pop, " + which, made, x -> x.pop(thread, 0));
        refused("force, " + which, made, x -> x.force(thread, 4));
        refused("raise, " + which, made, x -> x.raise(thread, 4));
    }

    private static void local() {
        sentence("13: NONE for what is not there");
        range("thread", 0, 2, NONE, CallEdgesTest::allStill, (x, n) -> x.local(n, 0, 0));
        range("f", 0, 2, NONE, Edges::busy, (x, n) -> x.local(0, n, 0));
        range("f of six", 0, 5, NONE, CallEdgesTest::sixFrames, (x, n) -> x.local(0, n, 0));
        Counted x = busy();
        row("locals", of(x.local(0, 1, 0), x.local(0, 1, 1), x.local(0, 1, 2), x.local(0, 1, 3)), REF + 1, 0, 7, 0);
    }

    private static void localOfAStack() {
        sentence("13: or its stack's value k - 4 (from the bottom) for k from 4 on");
        range("k, no values", 0, 3, NONE, () -> still(0, GOTO, 0), (x, n) -> x.local(0, 0, n));
        range("k, two values", 0, 5, NONE, Edges::busy, (x, n) -> x.local(0, 0, n));
        range("k, eight values", 0, 11, NONE, () -> still(8, FULL_STACK), (x, n) -> x.local(0, 0, n));
        Counted x = still(8, FULL_STACK);
        for (int k = 4; k < 12; k++) {
            due("value " + k, x.local(0, 0, k), k - 4);
        }
        x = still(9, join(FULL_STACK, STORE, 0));
        due("one that was popped is not there", x.local(0, 0, 11), NONE);
    }

    private static void setInt() {
        sentence("14: Sets a local (0 .. 3) of that frame to an int: 1. REFUSED for what is not there");
        range("thread", 0, 2, CallEdgesTest::allStill, (x, n) -> x.setInt(n, 0, 0, 4));
        range("f", 0, 2, Edges::busy, (x, n) -> x.setInt(0, n, 0, 4));
        range("f of six", 0, 5, CallEdgesTest::sixFrames, (x, n) -> x.setInt(0, n, 0, 4));
        range("k", 0, 3, Edges::busy, (x, n) -> x.setInt(0, 0, n, 4));
        range("k with a full stack", 0, 3, () -> still(8, FULL_STACK), (x, n) -> x.setInt(0, 0, n, 4));
        for (int k = 0; k < 4; k++) {
            for (int value : new int[] {LOWEST, -1, 0, HIGHEST}) {
                Counted x = busy();
                long[] due = of(x.local(0, 1, 0), x.local(0, 1, 1), x.local(0, 1, 2), x.local(0, 1, 3));
                due("setInt " + k, x.setInt(0, 1, k, value), 1);
                due[k] = value;
                row("that one alone", of(x.local(0, 1, 0), x.local(0, 1, 1), x.local(0, 1, 2), x.local(0, 1, 3)), due);
            }
        }
    }

    private static void setReference() {
        sentence("15: Sets it to the reference with an ID, or to none (-1): 1. REFUSED as before, or no such ID");
        range("thread", 0, 2, CallEdgesTest::allStill, (x, n) -> x.setReference(n, 0, 0, -1));
        range("f", 0, 2, Edges::busy, (x, n) -> x.setReference(0, n, 0, 1));
        range("k", 0, 3, Edges::busy, (x, n) -> x.setReference(0, 0, n, 1));
        range("k, to none", 0, 3, () -> still(8, FULL_STACK), (x, n) -> x.setReference(0, 0, n, -1));
        range("id, none given", -1, -1, () -> still(1, NEW, 0), (x, n) -> x.setReference(0, 0, 0, n));
        range("id, two given", -1, 1, CallEdgesTest::twoIds, (x, n) -> x.setReference(0, 0, 0, n));
        refused("an object that has no ID yet", Edges::busy, x -> x.setReference(0, 0, 0, 2));
        for (int k = 0; k < 4; k++) {
            for (int id = -1; id < 2; id++) {
                Counted x = twoIds();
                long[] due = of(x.local(0, 0, 0), x.local(0, 0, 1), x.local(0, 0, 2), x.local(0, 0, 3));
                due("setReference " + k, x.setReference(0, 0, k, id), 1);
                due[k] = REF + id;
                row("that one alone", of(x.local(0, 0, 0), x.local(0, 0, 1), x.local(0, 0, 2), x.local(0, 0, 3)), due);
            }
        }
        sentence("15: or its object is gone");
        refused("gone", Edges::busy, x -> x.setReference(0, 0, 0, 0));
        refused("gone, in another frame", Edges::busy, x -> x.setReference(0, 2, 3, 0));
    }

    /** Thread 0 is still and holds objects with the IDs 0 and 1 on its stack. */
    private static Counted twoIds() {
        Counted x = still(2, NEW, 0, NEW, 0, GOTO, 2);
        x.local(0, 0, 4);
        x.local(0, 0, 5);
        return x;
    }

    private static void field() {
        sentence("16: NONE for no such ID or field");
        range("id", 0, 1, NONE, CallEdgesTest::twoIds, (x, n) -> x.field(n, 0));
        range("id, one of two gone", 0, 1, NONE, Edges::busy, (x, n) -> x.field(n, 1));
        range("field", 0, 1, NONE, Edges::busy, (x, n) -> x.field(1, n));
        refused("no ID is given", NONE, () -> still(1, NEW, 0), x -> x.field(0, 0));
        sentence("16: GONE if the object is gone");
        range("field of one that is gone", 0, 1, NONE, Edges::busy, (x, n) -> x.field(0, n));
        row("gone", of(busy().field(0, 0), busy().field(0, 1)), GONE, GONE);
        Counted x = still(2, NEW, 0, STORE, 1, GOTO, 2);
        x.local(0, 0, 1);
        x.setInt(0, 0, 1, 0);
        due("one that nothing holds is there until it is collected", x.field(0, 0), 0);
        x.collect();
        due("gone", x.field(0, 0), GONE);
        x.collect();
        due("for good", x.field(0, 0), GONE);
    }

    private static void pin() {
        sentence("17: 1 if that changes something, else 0. No such ID, or it is gone: REFUSED.");
        for (boolean on : new boolean[] {true, false}) {
            range("id, " + on, 0, 1, CallEdgesTest::twoIds, (x, n) -> x.pin(n, on));
            refused("gone, " + on, Edges::busy, x -> x.pin(0, on));
            refused("not given yet, " + on, Edges::busy, x -> x.pin(2, on));
            refused("none given, " + on, () -> still(1, NEW, 0), x -> x.pin(0, on));
        }
        Counted x = twoIds();
        row("off, on, on, off, off", of(x.pin(1, false), x.pin(1, true), x.pin(1, true), x.pin(1, false),
            x.pin(1, false)), 0, 1, 0, 1, 0);
        row("each has its own", of(x.pin(0, true), x.pin(1, false), x.count(7), x.pin(1, true), x.count(7)), 1, 0, 1, 1, 2);
        x.raise(0, 0);
        due("a pinned one is never gone", x.collect(), 0);
        x.pin(0, false);
        due("the other one is", x.collect(), 1);
        row("pinned, there", of(x.count(7), x.count(0), x.field(0, 0), x.field(1, 0)), 1, 1, GONE, 0);
    }

    private static void collectNothingAndAll() {
        sentence("18: Answers how many.");
        due("nothing is there", new Counted().collect(), 0);
        Counted x = started(NEW, 0, STORE, 1, GOTO, 0);
        make(x, 40 * 3);
        due("40 there, one held", x.collect(), 39);
        due("none of them again", x.collect(), 0);
        x.suspend(0);
        x.setInt(0, 0, 1, 0);
        due("the last one", x.collect(), 1);
        due("nothing is left", x.count(0), 0);
        x = started(NEW, 0, STORE, 1, GOTO, 0);
        make(x, 40 * 3 + 1);
        row("all 40", of(x.count(0), x.collect(), x.count(0), x.collect()), 40, 40, 0, 0);
    }

    /** Thread 0 is still and holds 40 objects by its local 0 alone, each one's field leading to the next. */
    private static Counted chain(int field) {
        Counted x = started(NEW, 0, STORE, 1, LOAD, 1, LOAD, 0, PUT, field, LOAD, 1, STORE, 0, GOTO, 0);
        make(x, 40 * 8);
        x.suspend(0);
        x.setInt(0, 0, 1, 0);
        return x;
    }

    private static void collectAlongChains() {
        sentence("18: or from fields of pinned objects or objects come to");
        for (int field = 0; field < 2; field++) {
            Counted x = chain(field);
            due("40 in a chain are held by its first", x.collect(), 0);
            due("its ID", x.local(0, 0, 0), REF);
            due("the second one's", x.field(0, field), REF + 1);
            x.setReference(0, 0, 0, 1);
            due("the first one goes", x.collect(), 1);
            x.pin(1, true);
            x.setInt(0, 0, 0, 0);
            due("39 are held by a pinned one", x.collect(), 0);
            due("the third one's", x.field(1, field), REF + 2);
            x.pin(2, true);
            x.pin(1, false);
            due("the second one goes", x.collect(), 1);
            x.pin(2, false);
            due("all the others", x.collect(), 38);
        }
        Counted x = still(5, NEW, 0, STORE, 1, LOAD, 1, LOAD, 1, PUT, 0, GOTO, 5);
        due("one that leads to itself, held", x.collect(), 0);
        x.setInt(0, 0, 1, 0);
        due("and not held", x.collect(), 1);
        x = still(10, NEW, 0, STORE, 1, NEW, 0, STORE, 2, LOAD, 1, LOAD, 2, PUT, 1, LOAD, 2, LOAD, 1, PUT, 0);
        x.setInt(0, 0, 1, 0);
        due("a ring, held by one", x.collect(), 0);
        x.setInt(0, 0, 2, 0);
        due("and not held", x.collect(), 2);
    }

    private static void collectFromEachRoot() {
        sentence("18: come to from locals, stacks and arguments of frames, from results of threads");
        for (int k = 0; k < 4; k++) {
            Counted x = still(2, NEW, 0, STORE, k);
            due("local " + k, x.collect(), 0);
            x.setInt(0, 0, k, 0);
            due("no more", x.collect(), 1);
        }
        for (int values = 0; values < 8; values++) {
            int[] code = FULL_STACK.clone();
            code[values * 2] = NEW;
            Counted x = ran(8, code);
            due("value " + values + " of a stack", x.collect(), 0);
        }
        Counted x = started(NEW, 0, LOAD, 0, CALL, 0);
        make(x, 5 * 3 + 1);
        row("the stacks of six frames", of(x.thread(0, 0), x.count(0), x.collect()), 6, 6, 0);
        x = new Counted().code(0, NEW, 0, RETURN, 0);
        for (int thread = 0; thread < 3; thread++) {
            x.start(thread, 0, 0);
        }
        make(x, 6);
        due("three results", x.collect(), 0);
        for (int thread = 0; thread < 3; thread++) {
            due("start", x.start(thread, 1, 0), 1);
            due("a thread that is over no more has no result", x.collect(), 1);
        }
        x = started(NEW, 0, CALL, 1);
        x.code(1, PUSH, 0, STORE, 0, PUSH, 0, RETURN, 0);
        make(x, 4);
        due("an argument that is in no local", x.collect(), 0);
        make(x, 2);
        due("its frame is gone", x.collect(), 1);
        x = ran(2, NEW, 0, STORE, 0);
        due("what was popped holds nothing", x.collect(), 0);
        x.suspend(0);
        x.setInt(0, 0, 0, 5);
        due("nor does the stack's old place", x.collect(), 1);
    }

    private static void collectAndNewOnes() {
        sentence("18: are GONE, and are there no more; their IDs are never given again");
        Counted x = still(0, NEW, 0, STORE, 1, LOAD, 1, PUSH, 5, PUT, 0, LOAD, 1, PUSH, 6, PUT, 1, GOTO, 0);
        for (int id = 0; id < 10; id++) {
            go(x, 2);
            due("the next ID", x.local(0, 0, 1), REF + id);
            row("a new one has nothing of one before", of(x.field(id, 0), x.field(id, 1), x.pin(id, false)), 0, 0, 0);
            go(x, 6);
            row("its fields", of(x.field(id, 0), x.field(id, 1)), 5, 6);
            x.setInt(0, 0, 1, 0);
            row("it goes", of(x.collect(), x.count(0), x.count(1)), 1, 0, id + 1);
            row("for good", of(x.field(id, 0), x.field(0, 1), x.pin(id, true)), GONE, GONE, R);
            go(x, 1);
        }
    }

    private static void pop() {
        sentence("19: Takes the frame f and all above it from a STILL thread, which must have a frame below. REFUSED.");
        range("f of three", 0, 1, Edges::busy, (x, n) -> x.pop(0, n));
        refused("the only one", () -> still(1, GOTO, 0), x -> x.pop(0, 0));
        Counted x = busy();
        due("pop", x.pop(0, 1), 1);
        row("the lowest is left", of(x.thread(0, 0), x.frame(0, 0, 0), x.frame(0, 0, 1), x.frame(0, 0, 3),
            x.local(0, 0, 4)), 1, 0, 3, 1, REF + 1);
        due("the only one", x.pop(0, 0), R);
    }

    private static void popOfSix() {
        sentence("19: that one's counter becomes the number of the CALL, and the argument of the lowest frame is pushed");
        range("f of six", 0, 4, CallEdgesTest::sixFrames, (x, n) -> x.pop(0, n));
        for (int f = 0; f < 5; f++) {
            Counted x = sixFrames();
            x.setInt(0, f, 0, 99);
            due("pop(0, " + f + ")", x.pop(0, f), 5 - f);
            row("frame", of(x.thread(0, 0), x.frame(0, 0, 1), x.frame(0, 0, 3), x.local(0, 0, 4)), 5 - f, 3, 1, 6 - f);
            go(x, 1);
            row("it calls again", of(x.thread(0, 0), x.local(0, 0, 0), x.frame(0, 0, 1)), 6 - f, 6 - f, 0);
        }
    }

    private static void popWithAFullStack() {
        sentence("19: the argument is pushed on its stack again: there is room, though the stack was full");
        Counted x = ran(9, join(FULL_STACK, CALL, 1));
        x.suspend(0);
        row("seven are left by the CALL", of(x.frame(0, 1, 3), x.frame(0, 1, 1)), 7, 9);
        due("pop", x.pop(0, 0), 1);
        row("eight values", of(x.frame(0, 0, 3), x.local(0, 0, 11), x.frame(0, 0, 1)), 8, 7, 8);
    }

    private static void force() {
        sentence("20: Makes the top frame of a STILL thread return the int value. Answers how many frames are left.");
        range("thread", 0, 2, CallEdgesTest::allStill, (x, n) -> x.force(n, 5));
        for (int value : new int[] {LOWEST, R, -1, 0, HIGHEST}) {
            Counted x = sixFrames();
            for (int left = 5; left > 0; left--) {
                due("force", x.force(0, value), left);
                row("the frame below", of(x.thread(0, 0), x.frame(0, 0, 1), x.frame(0, 0, 3), x.local(0, 0, 4)),
                    left, 4, 1, value);
            }
            due("the last one", x.force(0, value), 0);
            row("over", of(x.thread(0, 2), x.result(0), x.thread(0, 1)), 2, value, 1);
            due("no frames", x.force(0, value), R);
        }
        Counted x = ran(9, join(FULL_STACK, CALL, 1));
        x.suspend(0);
        due("force", x.force(0, 50), 1);
        row("as the eighth value", of(x.frame(0, 0, 3), x.local(0, 0, 11)), 8, 50);
    }

    private static void raise() {
        sentence("21: Throws the int value in a STILL thread, as THROW does (no events). Answers how many frames are left.");
        range("thread", 0, 2, CallEdgesTest::allStill, (x, n) -> x.raise(n, 5));
        for (int value : new int[] {LOWEST, R, -1, 0, HIGHEST}) {
            Counted x = sixFrames();
            x.request(EXCEPTION, 3, 0, 2, 0);
            x.handler(0, 11);
            due("caught by the top one", x.raise(0, value), 6);
            row("frame", of(x.frame(0, 0, 1), x.frame(0, 0, 3), x.local(0, 0, 4)), 11, 1, value);
            x.handler(0, -1);
            due("not caught", x.raise(0, value), 0);
            row("over", of(x.thread(0, 2), x.result(0)), 2, value);
            row("no events, no suspend", of(x.count(2), x.count(3), x.thread(0, 1), x.thread(1, 1)), 0, 0, 1, 0);
            due("no frames", x.raise(0, value), R);
        }
        for (int frames = 1; frames <= 3; frames++) {
            Counted x = busy();
            x.handler(frames - 1, 7);
            due("caught by the frame of method " + (frames - 1), x.raise(0, 5), frames);
        }
    }

    /** Thread 0 has stopped before the instruction 0 of method 1, which method 0 called. */
    private static Counted stoppedInCall() {
        Counted x = started(PUSH, 3, CALL, 1, STORE, 0, GOTO, 0);
        x.code(1, GOTO, 0);
        x.request(BREAK, 0, 1, 1, 1);
        x.request(BREAK, 0, 2, 1, 0);
        x.request(BREAK, 1, 0, 1, 0);
        due("stops", x.run(50), 3);
        return x;
    }

    private static void notHavingStopped() {
        sentence("19, 20, 21: the thread counts as not having stopped");
        Counted x = stoppedInCall();
        x.resume(0);
        due("with none of them its instruction is done", x.run(1) + x.count(2), 1 + 1);
        x = stoppedInCall();
        x.pop(0, 0);
        x.resume(0);
        due("pop", x.run(50), 1);
        row("event", of(x.next(), x.event(0), x.event(4)), 1, 0, 1);
        x = stoppedInCall();
        x.force(0, 4);
        x.resume(0);
        due("force", x.run(50), 1);
        row("event", of(x.next(), x.event(0), x.event(4)), 1, 1, 2);
        x = stoppedInCall();
        x.handler(1, 0);
        x.raise(0, 4);
        x.resume(0);
        due("raise, to the same place", x.run(50), 1);
        row("event", of(x.next(), x.event(0), x.event(4)), 1, 2, 0);
        x = stoppedInCall();
        row("refused ones do not matter", of(x.pop(0, 1), x.pop(0, -1), x.force(1, 0), x.raise(3, 0)), R, R, R, R);
        x.resume(0);
        due("its instruction is done", x.run(1) + x.count(2), 1 + 1);
        x = stoppedInCall();
        x.force(0, 4);
        x.force(0, 4);
        x.start(0, 1, 0);
        x.resume(0);
        due("one that is started again has not stopped", x.run(50), 1);
        due("events", x.count(2), 2);
    }

    private static void result() {
        sentence("22: The result of a thread that is over, else NONE.");
        refused("idle", NONE, CallEdgesTest::suspended, x -> x.result(0));
        refused("with frames", NONE, CallEdgesTest::suspended, x -> x.result(1));
        Supplier<Counted> allOver = () -> {
            Counted x = allStill();
            for (int thread = 0; thread < 3; thread++) {
                x.force(thread, thread + 4);
            }
            return x;
        };
        range("thread", 0, 2, NONE, allOver, (x, n) -> x.result(n));
        Counted x = allOver.get();
        row("each has its own", of(x.result(0), x.result(1), x.result(2)), 4, 5, 6);
        x.start(1, 0, 0);
        row("started again", of(x.result(0), x.result(1), x.result(2)), 4, NONE, 6);
    }

    private static void thread() {
        sentence("23: its frames (0), suspend count (1), 0 idle, 1 with frames, 2 over (2); REFUSED");
        range("thread", 0, 2, Edges::busy, (x, n) -> x.thread(n, 0));
        range("what", 0, 2, Edges::busy, (x, n) -> x.thread(0, n));
        Counted x = suspended();
        row("idle", of(x.thread(0, 0), x.thread(0, 1), x.thread(0, 2)), 0, 1, 0);
        row("with frames", of(x.thread(1, 0), x.thread(1, 1), x.thread(1, 2)), 1, 1, 1);
        row("over", of(x.thread(2, 0), x.thread(2, 1), x.thread(2, 2)), 0, 1, 2);
        x = sixFrames();
        row("six frames", of(x.thread(0, 0), x.thread(0, 1), x.thread(0, 2)), 6, 1, 1);
        x.force(0, 0);
        due("five", x.thread(0, 0), 5);
    }

    private static void count() {
        sentence("24: Objects that are there (0), .. pinned objects (7); else REFUSED");
        range("what", 0, 7, Edges::busy, (x, n) -> x.count(n));
        range("what of a new object", 0, 7, Counted::new, (x, n) -> x.count(n));
        Counted x = still(3, NEW, 0, NEW, 0, NEW, 0);
        row("three objects, no ID", of(x.count(0), x.count(1)), 3, 0);
        x.local(0, 0, 4);
        x.local(0, 0, 5);
        row("two IDs", of(x.count(0), x.count(1)), 3, 2);
        x.pin(1, true);
        due("one pinned", x.count(7), 1);
        x.raise(0, 0);
        x.collect();
        row("two are gone; IDs stay given", of(x.count(0), x.count(1), x.count(7)), 1, 2, 1);
        x = started(GOTO, 0);
        for (int i = 0; i < 16; i++) {
            row("requests", of(x.count(4), x.count(5)), i, i);
            x.request(BREAK, 0, 0, 0, 0);
        }
        row("requests", of(x.count(4), x.count(5)), 16, 16);
        make(x, 2);
        row("events, lost, steps", of(x.count(2), x.count(3), x.count(6)), 20, 12, 2);
        for (int i = 0; i < 20; i++) {
            x.next();
        }
        row("taken ones are not lost", of(x.count(2), x.count(3)), 0, 12);
        x.clear(0);
        x.clear(0);
        row("cleared twice", of(x.count(4), x.count(5)), 16, 15);
        for (int i = 0; i < 8; i++) {
            make(x, 50);
        }
        due("steps of many runs", x.count(6), 402);
    }
}
