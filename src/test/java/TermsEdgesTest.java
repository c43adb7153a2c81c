/** The boundary cases that the document's Terms name: values and IDs, methods, faults, throwing, and the room there is. */
public final class TermsEdgesTest extends Edges {
    private static final int[] INTS = {LOWEST, LOWEST + 1, R, -1, 0, 1, HIGHEST - 1, HIGHEST};
    /** By op: how many values it pops. */
    private static final int[] POPS = {0, 0, 1, 2, 2, 0, 1, 2, 1, 1, 0, 1, 1};

    public static void main(String[] args) {
        check = new Check("TermsEdgesTest");
        lastCall();
        ints();
        referenceToNone();
        firstIds();
        lastIds();
        instructionsOfAMethod();
        lines();
        newFrames();
        numbersOfInstructions();
        sums();
        comparisons();
        newObjects();
        jumps();
        calls();
        returns();
        tooFewValues();
        exactlyEnoughValues();
        wrongValuesForNumbers();
        wrongValuesForFields();
        ninthValue();
        fullStackWithoutPush();
        countersBehind();
        seventhFrame();
        fortyFirstObject();
        noInstruction();
        orderOfFaults();
        whoCatches();
        whatACatchLeaves();
        handlerBeyondTheMethod();
        nobodyCatches();
        end();
    }

    private static void lastCall() {
        sentence("An object is used for at most 512 calls after it has been made");
        Counted x = started(GOTO, 0);
        for (int call = 3; call < 511; call++) {
            x.run(50);
        }
        due("the 511th", x.run(50), 50);
        due("the 512th", x.count(6), 509 * 50);
    }

    private static void ints() {
        sentence("an int stands as itself");
        for (int value : INTS) {
            Counted x = new Counted().code(0, NEW, 0, STORE, 2, LOAD, 2, LOAD, 0, PUT, 1, LOAD, 0, RETURN, 0);
            x.start(0, 0, value);
            x.suspend(0);
            due("start, local", x.local(0, 0, 0), value);
            due("setInt", x.setInt(0, 0, 3, value), 1);
            due("setInt, local", x.local(0, 0, 3), value);
            go(x, 6);
            due("stack", x.local(0, 0, 4), value);
            due("its object", x.local(0, 0, 2), REF);
            due("field", x.field(0, 1), value);
            x.resume(0);
            make(x, 1);
            due("result", x.result(0), value);
            x.start(0, 0, 0);
            x.suspend(0);
            due("force", x.force(0, value), 0);
            due("force, result", x.result(0), value);
            x.start(0, 0, 0);
            due("raise", x.raise(0, value), 0);
            due("raise, result", x.result(0), value);
        }
    }

    private static void referenceToNone() {
        sentence("that to none as REFERENCE - 1");
        Counted x = still(0, NEW, 0, STORE, 2, LOAD, 2, LOAD, 0, PUT, 1, LOAD, 0, RETURN, 0);
        due("setReference", x.setReference(0, 0, 0, -1), 1);
        due("local", x.local(0, 0, 0), 9999999999L);
        go(x, 6);
        due("stack", x.local(0, 0, 4), 9999999999L);
        due("its object", x.local(0, 0, 2), REF);
        due("field", x.field(0, 1), 9999999999L);
        x.resume(0);
        make(x, 1);
        due("result", x.result(0), 9999999999L);
        due("none has no ID", x.count(1), 1);
    }

    private static void firstIds() {
        sentence("its ID is given when a call first answers it, the next one from 0 on");
        Counted x = still(3, NEW, 0, NEW, 0, NEW, 0);
        due("NEW gives none", x.count(1), 0);
        due("no such one yet", x.field(0, 0), NONE);
        due("the third object is answered first", x.local(0, 0, 6), REF);
        due("then the first", x.local(0, 0, 4), REF + 1);
        due("one that has its ID keeps it", x.local(0, 0, 6), REF);
        due("then the second", x.local(0, 0, 5), REF + 2);
        due("given", x.count(1), 3);
        x = ran(2, NEW, 0, STORE, 1, RETURN, 0);
        due("a refused call gives none", x.local(0, 0, 1), NONE);
        x.suspend(0);
        due("nor one for a place that is not there", x.local(0, 1, 1), NONE);
        due("nor frame", x.frame(0, 0, 3), 0);
        due("nor collect", x.collect(), 0);
        due("nor setReference", x.setReference(0, 0, 2, 0), R);
        due("given", x.count(1), 0);
        x = still(7, NEW, 0, STORE, 1, LOAD, 1, NEW, 0, PUT, 0, LOAD, 1, LOAD, 1);
        due("object", x.local(0, 0, 1), REF);
        due("another, by a field", x.field(0, 0), REF + 1);
        due("the same object at another place", x.local(0, 0, 5), REF);
        due("given", x.count(1), 2);
        x = ran(2, NEW, 0, RETURN, 0);
        due("by a result", x.result(0), REF);
        due("again", x.result(0), REF);
        due("given", x.count(1), 1);
    }

    /** Thread 0 holds a chain of 40 objects by its local 0, each one's field 0 being the next; it is still. */
    private static void makeChain(Counted x) {
        x.start(0, 0, 0);
        x.resume(0);
        make(x, 40 * 8);
        x.suspend(0);
    }

    /** All 64 IDs are given, the last 24 of them to objects of a chain of 40 that thread 0 holds; 16 have none. */
    private static Counted allIdsGiven() {
        Counted x = new Counted();
        x.code(0, NEW, 0, STORE, 1, LOAD, 1, LOAD, 0, PUT, 0, LOAD, 1, STORE, 0, GOTO, 0);
        makeChain(x);
        due("the first ID", x.local(0, 0, 0), REF);
        for (int id = 0; id < 39; id++) {
            due("field(" + id + ", 0)", x.field(id, 0), REF + id + 1);
        }
        due("raise", x.raise(0, 0), 0);
        due("collect", x.collect(), 40);
        makeChain(x);
        due("the next ID", x.local(0, 0, 0), REF + 40);
        for (int id = 40; id < 63; id++) {
            due("field(" + id + ", 0)", x.field(id, 0), REF + id + 1);
        }
        return x;
    }

    private static void lastIds() {
        sentence("64 IDs may be given; beyond that such a call answers NO_ID in its stead");
        Counted x = allIdsGiven();
        due("given", x.count(1), 64);
        due("a 65th, by field", x.field(63, 0), NO_ID);
        due("again", x.field(63, 0), NO_ID);
        due("no more are given", x.count(1), 64);
        x.code(1, LOAD, 0, GET, 0, STORE, 1, LOAD, 1, RETURN, 0);
        x.start(1, 1, 0);
        x.suspend(1);
        due("the ID 63 is one", x.setReference(1, 0, 0, 63), 1);
        due("the ID 64 is none", x.setReference(1, 0, 2, 64), R);
        due("nor can it be pinned", x.pin(64, true), R);
        due("nor has it fields", x.field(64, 0), NONE);
        due("pin(63)", x.pin(63, true), 1);
        x.resume(1);
        make(x, 4);
        x.suspend(1);
        due("by local", x.local(1, 0, 1), NO_ID);
        due("by a stack's value", x.local(1, 0, 4), NO_ID);
        due("one that has its ID is answered", x.local(1, 0, 0), REF + 63);
        x.resume(1);
        make(x, 1);
        due("by result", x.result(1), NO_ID);
        due("objects without an ID are held as others are", x.collect(), 0);
        due("there", x.count(0), 40);
        due("given", x.count(1), 64);
        x.pin(63, false);
        x.raise(0, 0);
        due("all but the result and what it comes to are gone", x.collect(), 24);
        due("their IDs are not given again", x.result(1), NO_ID);
        due("63 is gone", x.field(63, 0), GONE);
        due("given", x.count(1), 64);
    }

    private static void instructionsOfAMethod() {
        sentence("METHODS 0 .. 5 hold 0 to 12 INSTRUCTIONS (op, x), numbered from 0");
        for (int method : new int[] {0, 5}) {
            for (int size : new int[] {0, 1, 11, 12}) {
                Counted x = new Counted();
                for (int i = 0; i < size; i++) {
                    due("instr", x.instr(method, i % 2 == 0 ? PUSH : STORE, i % 2), i + 1);
                }
                x.start(2, method, 0);
                make(x, size);
                x.suspend(2);
                due("all are done", x.frame(2, 0, 1), size);
                x.resume(2);
                make(x, 1);
                due("there is none behind the last", x.result(2), 4);
            }
        }
    }

    private static void lines() {
        sentence("the LINE of an instruction is its number / 3, rounded down");
        Counted x = new Counted();
        for (int i = 0; i < 12; i++) {
            x.instr(0, i % 2 == 0 ? PUSH : STORE, 0);
        }
        x.start(0, 0, 0);
        x.suspend(0);
        int[] due = {0, 0, 0, 1, 1, 1, 2, 2, 2, 3, 3, 3, 4};
        for (int i = 0; i <= 12; i++) {
            row("counter and line", of(x.frame(0, 0, 1), x.frame(0, 0, 2)), i, due[i]);
            if (i < 12) {
                go(x, 1);
            }
        }
    }

    private static void newFrames() {
        sentence("locals 0 at first, and a COUNTER, 0 at first");
        Counted x = new Counted();
        x.code(0, PUSH, 9, CALL, 1, CALL, 1);
        x.code(1, PUSH, 4, STORE, 0, PUSH, 4, STORE, 1, PUSH, 4, STORE, 2, PUSH, 4, STORE, 3, PUSH, 6, PUSH, 8,
            RETURN, 0);
        x.start(0, 0, 3);
        x.suspend(0);
        row("start", of(x.local(0, 0, 0), x.local(0, 0, 1), x.local(0, 0, 2), x.local(0, 0, 3), x.frame(0, 0, 1),
            x.frame(0, 0, 3)), 3, 0, 0, 0, 0, 0);
        go(x, 2);
        row("CALL", of(x.local(0, 0, 0), x.local(0, 0, 1), x.local(0, 0, 2), x.local(0, 0, 3), x.frame(0, 0, 1),
            x.frame(0, 0, 3)), 9, 0, 0, 0, 0, 0);
        go(x, 11 + 1);
        row("CALL, where a frame was before", of(x.local(0, 0, 0), x.local(0, 0, 1), x.local(0, 0, 2), x.local(0, 0, 3),
            x.frame(0, 0, 1), x.frame(0, 0, 3)), 8, 0, 0, 0, 0, 0);
        x.setInt(0, 1, 3, 5);
        x.raise(0, 0);
        due("again", x.start(0, 1, 2), 1);
        row("start, where a frame was before", of(x.local(0, 0, 0), x.local(0, 0, 1), x.local(0, 0, 2),
            x.local(0, 0, 3), x.frame(0, 0, 1), x.frame(0, 0, 3)), 2, 0, 0, 0, 0, 0);
    }

    private static void numbersOfInstructions() {
        sentence("0 PUSH x. 1 LOAD: the local x is pushed. 2 STORE: pops to the local x.");
        for (int value : new int[] {-1000, -1, 0, 1, 1000}) {
            due("PUSH", top(still(1, PUSH, value)), value);
        }
        for (int k = 0; k < 4; k++) {
            Counted x = still(2, PUSH, 7, STORE, k, LOAD, k);
            for (int other = 0; other < 4; other++) {
                due("STORE " + k + ", local " + other, x.local(0, 0, other), other == k ? 7 : 0);
            }
            due("STORE pops", x.frame(0, 0, 3), 0);
            go(x, 1);
            row("LOAD " + k, of(x.frame(0, 0, 3), x.local(0, 0, 4)), 1, 7);
        }
    }

    private static long resultOf(int op, int a, int b) {
        Counted x = new Counted().code(0, LOAD, 0, LOAD, 1, op, 0, RETURN, 0);
        x.start(0, 0, a);
        x.suspend(0);
        x.setInt(0, 0, 1, b);
        x.resume(0);
        make(x, 4);
        return x.result(0);
    }

    private static void sums() {
        sentence("push a + b (wraps)");
        int[][] rows = {{HIGHEST, 0, HIGHEST}, {HIGHEST, 1, LOWEST}, {1, HIGHEST, LOWEST}, {HIGHEST, HIGHEST, -2},
            {LOWEST, 0, LOWEST}, {LOWEST, -1, HIGHEST}, {-1, LOWEST, HIGHEST}, {LOWEST, LOWEST, 0},
            {LOWEST, HIGHEST, -1}, {0, 0, 0}, {R, R, -2000000000}, {HIGHEST - 1, 1, HIGHEST}, {LOWEST + 1, -1, LOWEST}};
        for (int[] r : rows) {
            due(r[0] + " + " + r[1], resultOf(ADD, r[0], r[1]), r[2]);
        }
    }

    private static void comparisons() {
        sentence("or 1 if a is less than b, else 0");
        for (int a : INTS) {
            for (int b : INTS) {
                due(a + " < " + b, resultOf(LESS, a, b), a < b ? 1 : 0);
            }
        }
    }

    private static void newObjects() {
        sentence("a new object with two FIELDS, 0 at first, is pushed");
        Counted x = still(1, NEW, 0, STORE, 1, LOAD, 1, PUSH, 5, PUT, 0, LOAD, 1, PUSH, 6, PUT, 1);
        due("reference", x.local(0, 0, 4), REF);
        row("fields", of(x.field(0, 0), x.field(0, 1), x.field(0, 2)), 0, 0, NONE);
        go(x, 4);
        row("field 0 is put", of(x.field(0, 0), x.field(0, 1)), 5, 0);
        go(x, 3);
        row("field 1 is put", of(x.field(0, 0), x.field(0, 1)), 5, 6);
        for (int field = 0; field < 2; field++) {
            x = still(9, NEW, 0, STORE, 1, LOAD, 1, PUSH, 5, PUT, field, LOAD, 1, GET, 0, LOAD, 1, GET, 1);
            row("GET behind PUT " + field, of(x.frame(0, 0, 3), x.local(0, 0, 4), x.local(0, 0, 5)), 2,
                field == 0 ? 5 : 0, field == 1 ? 5 : 0);
        }
    }

    private static void jumps() {
        sentence("10 GOTO x. 11 ZERO: pops; if that is the int 0, to x.");
        for (int to : new int[] {0, 1, 11}) {
            due("GOTO " + to, still(1, GOTO, to).frame(0, 0, 1), to);
            Counted x = still(2, LOAD, 0, ZERO, to);
            row("ZERO " + to, of(x.frame(0, 0, 1), x.frame(0, 0, 3)), to, 0);
        }
        for (int value : INTS) {
            Counted x = still(0, LOAD, 0, ZERO, 11);
            x.setInt(0, 0, 0, value);
            go(x, 2);
            row("ZERO of " + value, of(x.frame(0, 0, 1), x.frame(0, 0, 3)), value == 0 ? 11 : 2, 0);
        }
        Counted x = still(2, NEW, 0, ZERO, 11);
        row("ZERO of a reference", of(x.frame(0, 0, 1), x.frame(0, 0, 3)), 2, 0);
        x = still(0, LOAD, 0, ZERO, 11);
        x.setReference(0, 0, 0, -1);
        go(x, 2);
        row("ZERO of the reference to none", of(x.frame(0, 0, 1), x.frame(0, 0, 3)), 2, 0);
    }

    private static void calls() {
        sentence("8 CALL: its local 0 being v, which is also its ARGUMENT for good; the counter has gone on");
        for (int method : new int[] {1, 5}) {
            Counted x = new Counted().code(0, PUSH, 3, PUSH, 9, CALL, method);
            x.code(method, PUSH, 4, STORE, 0);
            x.start(0, 0, 0);
            make(x, 5);
            x.suspend(0);
            row("caller", of(x.frame(0, 1, 0), x.frame(0, 1, 1), x.frame(0, 1, 3), x.local(0, 1, 4)), 0, 3, 1, 3);
            row("callee", of(x.frame(0, 0, 0), x.local(0, 0, 0)), method, 4);
            due("pop", x.pop(0, 0), 1);
            row("the argument is still v", of(x.frame(0, 0, 3), x.local(0, 0, 5)), 2, 9);
        }
        Counted x = new Counted().code(0, NEW, 0, CALL, 0);
        x.start(0, 0, 0);
        make(x, 2);
        x.suspend(0);
        due("a reference", x.local(0, 0, 0), REF);
        x = still(0, LOAD, 0, CALL, 1);
        x.setReference(0, 0, 0, -1);
        go(x, 2);
        due("the reference to none", x.local(0, 0, 0), TO_NONE);
    }

    private static void returns() {
        sentence("9 RETURN: pops v; the frame goes, and v is pushed in the one below; without one the thread is OVER");
        Counted x = new Counted().code(0, PUSH, 2, PUSH, 3, CALL, 1, PUSH, 8, RETURN, 0);
        x.code(1, PUSH, 6, PUSH, 7, RETURN, 0);
        x.start(0, 0, 0);
        make(x, 6);
        x.suspend(0);
        row("one below", of(x.thread(0, 0), x.thread(0, 2), x.frame(0, 0, 1), x.frame(0, 0, 3), x.local(0, 0, 4),
            x.local(0, 0, 5)), 1, 1, 3, 2, 2, 7);
        due("not over", x.result(0), NONE);
        x.resume(0);
        make(x, 2);
        row("none below", of(x.thread(0, 0), x.thread(0, 2), x.result(0)), 0, 2, 8);
        int[] seven = join(java.util.Arrays.copyOf(FULL_STACK, 14), LOAD, 0, CALL, 1, RETURN, 0);
        x = new Counted().code(0, seven).code(1, PUSH, 9, RETURN, 0);
        x.start(0, 0, 0);
        make(x, 11);
        x.suspend(0);
        row("as the eighth value", of(x.frame(0, 0, 3), x.local(0, 0, 11)), 8, 9);
    }

    /** The object that is left when an exception request has seen one fault: its int, and whether there was one. */
    private static long faultOf(Counted x) {
        x.request(EXCEPTION, 3, 0, 0, 0);
        due("run(1)", x.run(1), 1);
        return x.count(2) == 0 ? 0 : x.result(0);
    }

    private static void tooFewValues() {
        sentence("1 an instruction finds too few values");
        for (int op = 0; op <= 12; op++) {
            for (int values = 0; values < POPS[op]; values++) {
                // The values would be right ones, so that nothing but their number is wrong.
                Counted x = values == 0 ? started(op, 0) : ran(1, op == PUT ? NEW : PUSH, 0, op, 0);
                due("op " + op + " with " + values, faultOf(x), 1);
                row("over", of(x.thread(0, 0), x.thread(0, 2)), 0, 2);
            }
        }
    }

    private static void exactlyEnoughValues() {
        sentence("1 an instruction finds too few values: just enough are no fault");
        for (int op = 0; op <= 12; op++) {
            int[] values = op == PUT ? new int[] {NEW, 0, PUSH, 0} : op == GET ? new int[] {NEW, 0}
                : java.util.Arrays.copyOf(new int[] {PUSH, 0, PUSH, 0}, POPS[op] * 2);
            Counted x = ran(POPS[op], join(values, op, 0));
            x.request(EXCEPTION, 3, 0, 0, 0);
            make(x, 1);
            due("op " + op, x.count(2), op == THROW ? 1 : 0);
            due("op " + op + ", result", x.result(0), op == THROW || op == RETURN ? 0 : NONE);
        }
    }

    /** Thread 0 stands before the op, with two values: 0 an int, 1 a reference to an object, 2 that to none. */
    private static Counted withValues(int op, int below, int top) {
        int[] makes = {PUSH, NEW, LOAD};
        Counted x = still(0, PUSH, 5, makes[below], below == 2 ? 1 : 0, makes[top], top == 2 ? 1 : 0, op, 0);
        x.setReference(0, 0, 1, -1);
        x.resume(0);
        make(x, 3);
        return x;
    }

    private static void wrongValuesForNumbers() {
        sentence("2 ADD or LESS finds a reference");
        for (int op : new int[] {ADD, LESS}) {
            for (int below = 0; below < 3; below++) {
                for (int top = 0; top < 3; top++) {
                    due("op " + op + " of " + below + ", " + top, faultOf(withValues(op, below, top)),
                        below == 0 && top == 0 ? 0 : 2);
                }
            }
        }
        due("one below the two does not matter", faultOf(ran(3, NEW, 0, PUSH, 0, PUSH, 0, ADD, 0)), 0);
    }

    private static void wrongValuesForFields() {
        sentence("or GET and PUT no reference in its place (the second value from the top for PUT), or one to none");
        for (int below = 0; below < 3; below++) {
            for (int top = 0; top < 3; top++) {
                due("GET of " + below + ", " + top, faultOf(withValues(GET, below, top)), top == 1 ? 0 : 2);
                due("PUT of " + below + ", " + top, faultOf(withValues(PUT, below, top)), below == 1 ? 0 : 2);
            }
        }
    }

    private static void ninthValue() {
        sentence("3 a push beyond 8 values");
        for (int op : new int[] {PUSH, LOAD, NEW}) {
            Counted x = ran(7, join(java.util.Arrays.copyOf(FULL_STACK, 14), op, 0, op, 0));
            due("an eighth, op " + op, faultOf(x), 0);
            x.suspend(0);
            due("values", x.frame(0, 0, 3), 8);
            x.resume(0);
            make(x, 1);
            due("a ninth, op " + op, x.result(0), 3);
            due("objects", x.count(0), op == NEW ? 1 : 0);
        }
    }

    private static void fullStackWithoutPush() {
        sentence("3 a push beyond 8 values: what pops first has room");
        int[] left = {0, 0, 7, 7, 7, 0, 8, 6, 7, 0, 8, 7, 0};
        for (int op = 0; op <= 12; op++) {
            if (left[op] > 0) {
                int[] last = op == GET ? new int[] {NEW, 0} : op == PUT ? new int[] {NEW, 0, PUSH, 1}
                    : new int[] {PUSH, 1, PUSH, 1};
                int[] full = join(java.util.Arrays.copyOf(FULL_STACK, 16 - last.length), last);
                // CALL goes to a method without instructions, so the frame that it leaves is the one below.
                Counted x = ran(8, join(full, op, op == CALL ? 1 : 0));
                due("op " + op, faultOf(x), 0);
                x.suspend(0);
                due("op " + op + ", values left", x.frame(0, op == CALL ? 1 : 0, 3), left[op]);
            }
        }
        Counted x = ran(8, join(FULL_STACK, RETURN, 0));
        due("RETURN", faultOf(x), 0);
        due("result", x.result(0), 7);
        x = ran(8, join(FULL_STACK, THROW, 0));
        due("THROW throws its value", faultOf(x), 7);
    }

    private static void countersBehind() {
        sentence("Behind an instruction the counter is one more, but where it goes elsewhere");
        int[][] ops = {{PUSH, 1}, {LOAD, 0}, {STORE, 0}, {ADD, 0}, {LESS, 0}, {NEW, 0}, {ZERO, 0}, {CALL, 1}};
        for (int[] op : ops) {
            Counted x = still(4, PUSH, 1, PUSH, 1, PUSH, 1, op[0], op[1]);
            due("op " + op[0], x.frame(0, op[0] == CALL ? 1 : 0, 1), 4);
        }
        due("GET", still(4, NEW, 0, NEW, 0, NEW, 0, GET, 1).frame(0, 0, 1), 4);
        due("PUT", still(4, NEW, 0, NEW, 0, NEW, 0, PUT, 1).frame(0, 0, 1), 4);
        due("GOTO", still(4, PUSH, 1, PUSH, 1, PUSH, 1, GOTO, 9).frame(0, 0, 1), 9);
        due("ZERO of 0", still(4, PUSH, 1, PUSH, 1, PUSH, 0, ZERO, 9).frame(0, 0, 1), 9);
    }

    private static void seventhFrame() {
        sentence("3 a CALL beyond 6 frames");
        for (int thread = 0; thread < 3; thread++) {
            Counted x = new Counted().code(0, LOAD, 0, CALL, 0);
            x.start(thread, 0, 0);
            make(x, 10);
            due("six", x.thread(thread, 0), 6);
            make(x, 1);
            due("six", x.thread(thread, 0), 6);
            make(x, 1);
            row("a seventh", of(x.thread(thread, 0), x.thread(thread, 2), x.result(thread)), 0, 2, 3);
        }
        Counted x = new Counted().code(0, LOAD, 0, CALL, 0);
        for (int thread = 0; thread < 3; thread++) {
            x.start(thread, 0, 0);
        }
        make(x, 30);
        row("each thread has its own six", of(x.thread(0, 0), x.thread(1, 0), x.thread(2, 0)), 6, 6, 6);
        x.suspend(3);
        due("room again", x.force(0, 1), 5);
        x.code(0, CALL, 0);
        x.resume(0);
        make(x, 1);
        due("six again", x.thread(0, 0), 6);
    }

    private static void fortyFirstObject() {
        sentence("3 a NEW beyond 40 objects that are there");
        Counted x = started(NEW, 0, STORE, 1, GOTO, 0);
        make(x, 39 * 3);
        due("39", x.count(0), 39);
        make(x, 1);
        due("40", x.count(0), 40);
        make(x, 2);
        x.suspend(0);
        due("all but one are lost", x.collect(), 39);
        x.resume(0);
        make(x, 39 * 3);
        row("40 are there, though more were made", of(x.count(0), x.thread(0, 2)), 40, 1);
        make(x, 1);
        row("a 41st", of(x.count(0), x.thread(0, 2), x.result(0)), 40, 2, 3);
        x = new Counted().code(0, NEW, 0, STORE, 1, GOTO, 0);
        x.start(0, 0, 0);
        x.start(1, 0, 0);
        make(x, 20 * 6);
        due("of all threads", x.count(0), 40);
        make(x, 2);
        row("a 41st of each", of(x.result(0), x.result(1), x.count(0)), 3, 3, 40);
        due("all of them go", x.collect(), 40);
        x.start(2, 0, 0);
        make(x, 1);
        due("room again", x.count(0), 1);
    }

    private static void noInstruction() {
        sentence("4 the counter is not below the number of the method's instructions (nothing is done)");
        due("a method without any", faultOf(started()), 4);
        due("just behind the last", faultOf(ran(1, PUSH, 0)), 4);
        due("the last", faultOf(ran(1, PUSH, 0, PUSH, 0)), 0);
        due("GOTO just behind the last", faultOf(ran(1, GOTO, 1)), 4);
        due("GOTO to the last", faultOf(ran(1, GOTO, 1, PUSH, 0)), 0);
        due("far behind", faultOf(ran(1, GOTO, 11)), 4);
        Counted x = started(PUSH, 0);
        x.request(EXCEPTION, 2, 0, 1, 0);
        due("run", x.run(50), 2);
        row("event", event(x), 0, EXCEPTION, 0, 0, 1);
        x = ran(1, PUSH, 6);
        x.instr(0, RETURN, 0);
        make(x, 1);
        due("one that is added in time is found", x.result(0), 6);
    }

    private static void orderOfFaults() {
        sentence("These are tested in the order 4, 1, 2, 3.");
        due("4 before 3", faultOf(ran(8, FULL_STACK)), 4);
        for (int op : new int[] {ADD, LESS}) {
            due("1 before 2, op " + op, faultOf(ran(1, NEW, 0, op, 0)), 1);
        }
        due("1 before 2, PUT", faultOf(ran(1, PUSH, 0, PUT, 0)), 1);
        Counted x = new Counted().code(0, LOAD, 0, CALL, 1).code(1, LOAD, 0, CALL, 2).code(2, LOAD, 0, CALL, 3)
            .code(3, LOAD, 0, CALL, 4).code(4, LOAD, 0, CALL, 5).code(5, CALL, 0);
        x.start(0, 0, 0);
        make(x, 10);
        due("six frames", x.thread(0, 0), 6);
        due("1 before 3, CALL", faultOf(x), 1);
    }

    /** Thread 0 has six frames, of the methods 0 to 5, and throws 9 by its next step. */
    private static Counted sixFrames() {
        Counted x = new Counted();
        for (int method = 0; method < 5; method++) {
            x.code(method, LOAD, 0, CALL, method + 1);
        }
        x.code(5, PUSH, 8, PUSH, 9, THROW, 0);
        x.start(0, 0, 4);
        make(x, 12);
        return x;
    }

    private static void whoCatches() {
        sentence("from the top frame down, a frame whose method has a HANDLER catches it: the frames above go");
        for (int method = 0; method < 6; method++) {
            Counted x = sixFrames();
            x.handler(method, 11);
            make(x, 1);
            x.suspend(0);
            row("the one handler, method " + method, of(x.thread(0, 0), x.frame(0, 0, 0), x.frame(0, 0, 1)),
                method + 1, method, 11);
            x = sixFrames();
            for (int lower = 0; lower <= method; lower++) {
                x.handler(lower, lower);
            }
            make(x, 1);
            x.suspend(0);
            row("the highest of several, method " + method, of(x.thread(0, 0), x.frame(0, 0, 0), x.frame(0, 0, 1)),
                method + 1, method, method);
        }
    }

    private static void whatACatchLeaves() {
        sentence("its stack has only v, and its counter is the handler (a frame's own counter does not matter)");
        for (int handler : new int[] {0, 8, 11}) {
            Counted x = started(join(FULL_STACK, THROW, 0));
            x.handler(0, handler);
            make(x, 9);
            x.suspend(0);
            row("a full stack, handler " + handler,
                of(x.frame(0, 0, 1), x.frame(0, 0, 3), x.local(0, 0, 4), x.local(0, 0, 5)), handler, 1, 7, NONE);
            x = started(ADD, 0);
            x.handler(0, handler);
            make(x, 1);
            x.suspend(0);
            row("an empty stack, handler " + handler,
                of(x.frame(0, 0, 1), x.frame(0, 0, 3), x.local(0, 0, 4), x.local(0, 0, 5)), handler, 1, 1, NONE);
        }
        Counted x = still(0, PUSH, 6, STORE, 3, NEW, 0, THROW, 0);
        x.handler(0, 1);
        go(x, 4);
        row("its locals stay", of(x.local(0, 0, 3), x.frame(0, 0, 1), x.local(0, 0, 4)), 6, 1, REF);
    }

    private static void handlerBeyondTheMethod() {
        sentence("a HANDLER (the number of an instruction, or none)");
        Counted x = started(PUSH, 6, THROW, 0);
        x.handler(0, 2);
        make(x, 2);
        x.suspend(0);
        row("just behind the last", of(x.frame(0, 0, 1), x.local(0, 0, 4)), 2, 6);
        go(x, 1);
        row("its fault is caught there again", of(x.frame(0, 0, 1), x.frame(0, 0, 3), x.local(0, 0, 4)), 2, 1, 4);
        x.resume(0);
        make(x, 50);
        due("and again", x.thread(0, 2), 1);
        x.instr(0, RETURN, 0);
        make(x, 1);
        due("until there is an instruction", x.result(0), 4);
        x = started(PUSH, 6, THROW, 0);
        x.handler(0, 0);
        due("handler none again", x.handler(0, -1), 0);
        make(x, 2);
        due("catches nothing", x.result(0), 6);
    }

    private static void nobodyCatches() {
        sentence("Without one all frames go, and the thread is OVER, with the result v.");
        Counted x = sixFrames();
        make(x, 1);
        row("six frames", of(x.thread(0, 0), x.thread(0, 2), x.result(0)), 0, 2, 9);
        x = ran(2, NEW, 0, THROW, 0);
        row("a reference", of(x.thread(0, 2), x.result(0)), 2, REF);
        x = still(0, LOAD, 0, THROW, 0);
        x.setReference(0, 0, 0, -1);
        x.resume(0);
        make(x, 2);
        due("the reference to none", x.result(0), TO_NONE);
        x = started(LOAD, 0, CALL, 1);
        x.code(1, PUSH, 5, THROW, 0);
        x.handler(2, 0);
        make(x, 4);
        due("a handler of a method without a frame", x.result(0), 5);
    }
}
