/** The boundary cases of runs, requests and events, as the document's Terms name them. */
public final class RunEdgesTest extends Edges {
    public static void main(String[] args) {
        check = new Check("RunEdgesTest");
        threadsAtFirst();
        goesRound();
        turnOfOneThatIsLeftOut();
        suspendCountOfZero();
        looksOnceWhereItStopped();
        stopsOnlyItself();
        changesWhileStopped();
        eventsByRisingNumbers();
        eventThatSuspendsEndsTheRun();
        eventsBehindAnInstruction();
        sixteenRequests();
        onUntilCleared();
        breaks();
        breaksBeforeNoInstruction();
        stepsByLine();
        stepsByFrames();
        stepsOfSixFrames();
        stepOfAThreadThatBeginsAgain();
        stepIsCleared();
        watches();
        watchesOnlyWhatIsDone();
        exceptions();
        exceptionsOfFaults();
        entries();
        entryOnlyWhileNoneIsDone();
        policies();
        skips();
        skipOfAStep();
        twentyEvents();
        lostEvents();
        lineGoesRound();
        placeOfAnEvent();
        end();
    }

    private static void threadsAtFirst() {
        sentence("THREADS 0 .. 2 are IDLE, or have frames, or are OVER; each has a SUSPEND COUNT, 0 at first");
        Counted x = new Counted();
        for (int thread = 0; thread < 3; thread++) {
            row("at first", of(x.thread(thread, 0), x.thread(thread, 1), x.thread(thread, 2)), 0, 0, 0);
            x.start(thread, 0, 0);
            row("with frames", of(x.thread(thread, 0), x.thread(thread, 1), x.thread(thread, 2)), 1, 0, 1);
            make(x, 1);
            row("over", of(x.thread(thread, 0), x.thread(thread, 1), x.thread(thread, 2)), 0, 0, 2);
        }
    }

    /** A request shows by its events, which suspend nothing, whose steps were made; they are taken out. */
    private static void steps(String name, Counted x, int... due) {
        make(x, due.length);
        for (int i = 0; i < due.length; i++) {
            due(name + ", step " + i, x.event(2), due[i]);
            x.next();
        }
        due(name + ", no more events", x.next(), R);
    }

    /** The threads of the bits go round in a method of their own. */
    private static Counted going(int threads) {
        Counted x = new Counted().code(0, GOTO, 0);
        x.request(BREAK, 0, 0, 0, 0);
        for (int thread = 0; thread < 3; thread++) {
            if ((threads >> thread & 1) == 1) {
                x.start(thread, 0, 0);
            }
        }
        return x;
    }

    private static void goesRound() {
        sentence("A RUN goes round: beginning behind the thread that made the last step (with 0 at first)");
        steps("one", going(1), 0, 0, 0);
        steps("one", going(2), 1, 1, 1);
        steps("one", going(4), 2, 2, 2);
        steps("two", going(3), 0, 1, 0, 1);
        steps("two", going(5), 0, 2, 0, 2);
        steps("two", going(6), 1, 2, 1, 2);
        steps("three", going(7), 0, 1, 2, 0, 1, 2, 0);
        Counted x = going(7);
        steps("a run of one step each", x, 0);
        steps("the next run begins behind it", x, 1);
        steps("and goes on", x, 2);
        steps("round", x, 0);
        due("a refused run", x.run(0), R);
        due("a refused run", x.run(51), R);
        steps("takes no turn", x, 1);
    }

    private static void turnOfOneThatIsLeftOut() {
        sentence("the first one with frames and a suspend count of 0 makes a STEP");
        Counted x = going(7);
        steps("all", x, 0, 1);
        x.suspend(2);
        steps("2 is suspended", x, 0, 1, 0, 1);
        x.resume(2);
        steps("2 is next", x, 2, 0, 1);
        x.suspend(0);
        x.suspend(1);
        steps("2 alone", x, 2, 2);
        x.resume(3);
        x.suspend(0);
        x.force(0, 0);
        x.resume(0);
        steps("0 is over", x, 1, 2, 1);
        x.start(0, 0, 0);
        steps("0 begins again", x, 2, 0, 1);
        x.suspend(3);
        due("none can", x.run(50), 0);
        x.resume(3);
        steps("no turn was lost", x, 2);
        x = new Counted().code(0, PUSH, 0, RETURN, 0).code(1, GOTO, 0);
        x.request(BREAK, 1, 0, 0, 0);
        x.start(0, 1, 0);
        x.start(1, 0, 0);
        x.start(2, 1, 0);
        make(x, 5);
        row("1 is over by the last step", of(x.thread(1, 2), x.event(2), x.next(), x.event(2), x.next(), x.event(2),
            x.next()), 2, 0, 2, 2, 1, 0, 0);
        steps("2 comes behind it", x, 2, 0);
    }

    private static void suspendCountOfZero() {
        sentence("a suspend count of 0");
        Counted x = started(GOTO, 0);
        x.suspend(0);
        due("1", x.run(50), 0);
        x.suspend(0);
        due("2", x.run(50), 0);
        x.resume(0);
        due("1 again", x.run(50), 0);
        x.resume(0);
        due("0 again", x.run(50), 50);
    }

    private static void looksOnceWhereItStopped() {
        sentence("unless the thread STOPPED at this very place and has not made a step since");
        Counted x = started(GOTO, 0);
        x.request(BREAK, 0, 0, 1, 0);
        due("stops", x.run(50), 1);
        due("one event", x.count(2), 1);
        x.resume(0);
        due("one step goes through", x.run(1), 1);
        due("no second event", x.count(2), 1);
        due("it is the same place, but a step was made", x.run(50), 1);
        due("a second event", x.count(2), 2);
        x = started(ADD, 0);
        x.handler(0, 0);
        x.request(BREAK, 0, 0, 1, 0);
        due("stops before a fault", x.run(50), 1);
        x.resume(0);
        due("faults, and stops where the handler is", x.run(50), 2);
        due("events", x.count(2), 2);
        x = started(GOTO, 0);
        x.request(BREAK, 0, 0, 0, 0);
        make(x, 3);
        due("an event that suspends nothing is no stop", x.count(2), 3);
    }

    private static void stopsOnlyItself() {
        sentence("if one of them suspends this thread, it has stopped, the step is over, and no instruction is done");
        for (int policy = 0; policy <= 2; policy++) {
            Counted x = started(PUSH, 4, PUSH, 5);
            x.request(BREAK, 0, 0, policy, 0);
            make(x, 1);
            x.suspend(0);
            row("policy " + policy, of(x.frame(0, 0, 1), x.frame(0, 0, 3)), policy == 0 ? 1 : 0, policy == 0 ? 1 : 0);
        }
        Counted x = new Counted().code(0, GOTO, 0).code(1, GOTO, 0);
        x.start(0, 0, 0);
        x.start(1, 1, 0);
        x.request(BREAK, 0, 0, 2, 0);
        x.request(BREAK, 1, 0, 1, 0);
        due("0 stops", x.run(50), 1);
        x.resume(3);
        due("1 was suspended by 0's event, but had not stopped", x.run(50), 1);
        row("its own event", of(x.next(), x.event(0), x.event(2)), 1, 1, 1);
        x.resume(3);
        due("0 had stopped, does its instruction; 1 too; 0 stops", x.run(50), 3);
        x = ran(1, GOTO, 0);
        x.suspend(0);
        x.request(BREAK, 0, 0, 1, 0);
        x.resume(0);
        due("suspend() is no stop", x.run(50), 1);
        due("event", x.count(2), 1);
    }

    private static void changesWhileStopped() {
        sentence("has not made a step since: what else is done in between does not matter");
        Counted x = started(GOTO, 0);
        x.request(BREAK, 0, 0, 1, 0);
        due("stops", x.run(50), 1);
        due("a new request for the place", x.request(ENTRY, 0, 0, 1, 0), 1);
        x.suspend(0);
        x.setInt(0, 0, 0, 3);
        x.resume(0);
        x.resume(0);
        row("refused calls", of(x.pop(0, 0), x.force(0, 1), x.raise(0, 1), x.start(0, 0, 0)), R, R, R, R);
        due("one step goes through", x.run(1), 1);
        due("no second event", x.count(2), 1);
        x = new Counted().code(0, GOTO, 0).code(1, GOTO, 0);
        x.start(0, 0, 0);
        x.start(1, 1, 0);
        x.request(BREAK, 0, 0, 1, 0);
        due("0 stops", x.run(50), 1);
        due("1 goes on", x.run(50), 50);
        x.resume(0);
        due("1's steps are not 0's", x.run(1) + x.count(2), 1 + 1);
    }

    private static void eventsByRisingNumbers() {
        sentence("an EVENT is made for each that fits, by rising numbers");
        Counted x = started(GOTO, 0);
        for (int i = 0; i < 16; i++) {
            due("request", x.request(i % 2 == 0 ? ENTRY : BREAK, 0, 0, i % 3, 0), i);
        }
        due("run", x.run(50), 1);
        for (int i = 0; i < 16; i++) {
            row("event " + i, event(x), i, i % 2 == 0 ? ENTRY : BREAK, 0, 0, 0);
            due("next", x.next(), 15 - i);
        }
        row("5 suspend the thread, 5 all", suspendCounts(x), 10, 5, 5);
    }

    private static void eventThatSuspendsEndsTheRun() {
        sentence("A step with an event that suspends ends the run.");
        for (int policy = 0; policy <= 2; policy++) {
            Counted x = going(6);
            x.request(BREAK, 0, 0, policy, 5);
            due("before an instruction, policy " + policy, x.run(20), policy == 0 ? 20 : 6);
            x = new Counted().code(0, NEW, 0, PUSH, 1, PUT, 0, GOTO, 3).code(1, GOTO, 0);
            x.request(WATCH, 0, 0, policy, 0);
            x.start(0, 0, 0);
            x.start(1, 1, 0);
            due("behind a PUT, policy " + policy, x.run(20), policy == 0 ? 20 : 5);
            x = new Counted().code(0, THROW, 0).code(1, GOTO, 0);
            x.request(EXCEPTION, 2, 0, policy, 0);
            x.start(0, 0, 0);
            x.start(1, 1, 0);
            due("behind a throw, policy " + policy, x.run(20), policy == 0 ? 20 : 1);
        }
    }

    private static void eventsBehindAnInstruction() {
        sentence("likewise making events, which suspend when the step is over");
        Counted x = started(NEW, 0, STORE, 0, LOAD, 0, PUSH, 7, PUT, 0, PUSH, 8);
        x.request(WATCH, 0, 0, 2, 0);
        x.request(WATCH, 0, 0, 0, 0);
        x.request(WATCH, 0, 0, 1, 0);
        x.request(BREAK, 0, 5, 1, 0);
        due("run", x.run(50), 5);
        row("suspended", suspendCounts(x), 2, 1, 1);
        row("the PUT is done", of(x.frame(0, 0, 1), x.frame(0, 0, 3), x.local(0, 0, 0), x.field(0, 0)), 5, 0, REF, 7);
        due("events", x.count(2), 3);
        x.resume(3);
        x.resume(3);
        due("it had not stopped: the break", x.run(50), 1);
        due("events", x.count(2), 4);
    }

    private static void sixteenRequests() {
        sentence("REQUESTS are numbered 0, 1, .. as they are made, at most 16 are made");
        Counted x = started(GOTO, 0);
        for (int i = 0; i < 16; i++) {
            due("request", x.request(BREAK, 0, 0, 0, 0), i);
        }
        due("a 17th", x.request(BREAK, 0, 0, 0, 0), R);
        for (int i = 0; i < 16; i++) {
            due("clear", x.clear(i), 1);
        }
        due("none is on, but 16 were made", x.request(BREAK, 0, 0, 0, 0), R);
        row("made, on", of(x.count(4), x.count(5)), 16, 0);
        due("none fits", x.run(50) + x.count(2), 50);
        x = new Counted();
        due("a refused one takes no number", x.request(5, 0, 0, 0, 0), R);
        due("a refused one takes no number", x.request(STEP, 0, 0, 0, 0), R);
        due("the first", x.request(BREAK, 0, 0, 0, 0), 0);
        x.clear(0);
        due("a cleared one's number is not taken again", x.request(BREAK, 0, 0, 0, 0), 1);
    }

    private static void onUntilCleared() {
        sentence("each is ON until it is cleared");
        Counted x = started(GOTO, 0);
        x.request(BREAK, 0, 0, 0, 0);
        x.request(BREAK, 0, 0, 0, 0);
        make(x, 2);
        due("both fit each time", x.count(2), 4);
        x.clear(0);
        make(x, 1);
        due("one is cleared", x.count(2), 5);
        row("the other one's", of(x.next(), x.next(), x.next(), x.next(), x.event(0)), 4, 3, 2, 1, 1);
        x.clear(1);
        make(x, 5);
        due("both are", x.count(2), 1);
    }

    private static void breaks() {
        sentence("0 BREAK at the instruction b of the method a, before it is done");
        for (int method : new int[] {0, 5}) {
            for (int at : new int[] {0, 1, 10, 11}) {
                Counted x = new Counted();
                for (int i = 0; i < 12; i++) {
                    x.instr(method, i % 2 == 0 ? PUSH : STORE, 0);
                }
                x.request(BREAK, method, at, 1, 0);
                x.request(BREAK, method == 0 ? 1 : 4, at, 1, 0);
                x.start(1, method, 0);
                due("run", x.run(50), at + 1);
                row("event", event(x), 0, BREAK, 1, method, at);
                row("frame", of(x.frame(1, 0, 1), x.frame(1, 0, 3)), at, at % 2);
                x.resume(1);
                due("to the end, and the fault behind it", x.run(50), 12 - at + 1);
                due("one event only", x.count(2), 1);
            }
        }
    }

    private static void breaksBeforeNoInstruction() {
        sentence("0 BREAK at the instruction b: where the counter stands, though the method has none there");
        Counted x = started(PUSH, 0);
        x.request(BREAK, 0, 1, 1, 0);
        due("run", x.run(50), 2);
        row("event", event(x), 0, BREAK, 0, 0, 1);
        x.resume(0);
        due("the fault", x.run(50), 1);
        due("result", x.result(0), 4);
    }

    /** Thread 0 stands at an instruction, 0 to 11, of method 0, and each step takes it one on. */
    private static Counted standingAt(int counter) {
        Counted x = new Counted();
        for (int i = 0; i < 12; i++) {
            x.instr(0, i % 2 == 0 ? PUSH : STORE, 0);
        }
        x.start(0, 0, 0);
        make(x, counter);
        return x;
    }

    private static void stepsByLine() {
        sentence("for INTO and OVER, f frames and another line");
        int[] nextLine = {3, 3, 3, 6, 6, 6, 9, 9, 9};
        for (int depth : new int[] {INTO, OVER, OUT}) {
            for (int from = 0; from < 9; from++) {
                Counted x = standingAt(from);
                x.request(STEP, 0, depth, 1, 0);
                if (depth == OUT) {
                    due("OUT from " + from + " goes to the end", x.run(50), 12 - from + 1);
                    due("no event", x.count(2), 0);
                } else {
                    due("depth " + depth + " from " + from, x.run(50), nextLine[from] - from + 1);
                    row("event", event(x), 0, STEP, 0, 0, nextLine[from]);
                }
            }
        }
        Counted x = ran(3, PUSH, 0, PUSH, 0, PUSH, 0, ZERO, 2);
        x.request(STEP, 0, OVER, 1, 0);
        due("a line above is another one too", x.run(50), 2);
        row("event", event(x), 0, STEP, 0, 0, 2);
        x = ran(2, GOTO, 2, PUSH, 0, GOTO, 0);
        x.request(STEP, 0, INTO, 1, 0);
        due("round within a line", x.run(50), 50);
        due("no event", x.count(2), 0);
    }

    /** Thread 0 has so many frames, 1 to 3, each one of another method, and stands at the first line of the top one. */
    private static Counted nested(int frames) {
        Counted x = new Counted();
        x.code(0, PUSH, 1, CALL, 1, RETURN, 0);
        x.code(1, PUSH, 1, CALL, 2, RETURN, 0);
        x.code(2, PUSH, 1, RETURN, 0);
        x.start(0, 0, 0);
        make(x, (frames - 1) * 2);
        return x;
    }

    private static void stepsByFrames() {
        sentence("it now has fewer than f frames; or, for INTO, more");
        Counted x = nested(1);
        x.request(STEP, 0, INTO, 1, 0);
        due("INTO, more", x.run(50), 3);
        row("event", event(x), 0, STEP, 0, 1, 0);
        x = nested(2);
        x.request(STEP, 0, INTO, 1, 0);
        due("INTO, more than two", x.run(50), 3);
        row("event", event(x), 0, STEP, 0, 2, 0);
        for (int depth : new int[] {INTO, OVER, OUT}) {
            x = nested(3);
            x.request(STEP, 0, depth, 1, 0);
            due("fewer, depth " + depth, x.run(50), 3);
            row("event", event(x), 0, STEP, 0, 1, 2);
        }
        for (int depth : new int[] {OVER, OUT}) {
            x = nested(2);
            x.request(STEP, 0, depth, 1, 0);
            due("more do not matter, then fewer, depth " + depth, x.run(50), 6);
            row("event", event(x), 0, STEP, 0, 0, 2);
            x = nested(1);
            x.request(STEP, 0, depth, 1, 0);
            due("none are fewer than one, depth " + depth, x.run(50), 8);
            row("no event", of(x.count(2), x.count(5)), 0, 1);
        }
        x = nested(1);
        x.start(1, 2, 0);
        x.request(STEP, 1, INTO, 1, 0);
        due("another thread's frames do not matter", x.run(50), 10);
        due("no event", x.count(2), 0);
    }

    private static void stepsOfSixFrames() {
        sentence("it now has fewer than f frames, f being 6");
        for (int depth : new int[] {INTO, OVER, OUT}) {
            Counted x = new Counted().code(0, LOAD, 0, CALL, 0, PUSH, 0, PUSH, 0);
            x.start(0, 0, 0);
            make(x, 10);
            x.request(STEP, 0, depth, 1, 0);
            x.suspend(0);
            due("force", x.force(0, 1), 5);
            x.resume(0);
            due("five, depth " + depth, x.run(50), 1);
            row("event", event(x), 0, STEP, 0, 0, 2);
        }
    }

    private static void stepOfAThreadThatBeginsAgain() {
        sentence("f being the frames that the thread had: one that is over and starts again has 1");
        Counted x = nested(2);
        x.request(STEP, 0, OUT, 1, 0);
        x.suspend(0);
        x.raise(0, 0);
        due("over", x.start(0, 2, 0), 1);
        x.resume(0);
        due("fewer frames", x.run(50), 1);
        row("event", event(x), 0, STEP, 0, 2, 0);
    }

    private static void stepIsCleared() {
        sentence("When it fits it is cleared.");
        for (int policy = 0; policy <= 2; policy++) {
            Counted x = standingAt(0);
            x.request(STEP, 0, OVER, policy, 0);
            x.request(STEP, 0, INTO, policy, 0);
            make(x, 3);
            due("not before", x.count(5), 2);
            make(x, 1);
            row("both fit, policy " + policy, of(x.count(2), x.count(5), x.clear(0), x.clear(1)), 2, 0, 0, 0);
            x.resume(3);
            x.resume(3);
            make(x, 4);
            due("no more events", x.count(2), 2);
        }
        Counted x = started(PUSH, 0, STORE, 0, PUSH, 0, STORE, 0);
        x.request(STEP, 0, OVER, 1, 0);
        x.clear(0);
        due("one that is cleared before does not fit", x.run(50), 5);
        due("no event", x.count(2), 0);
    }

    private static void watches() {
        sentence("2 WATCH of field b of any object: a PUT of x = b (a means nothing)");
        for (int field = 0; field < 2; field++) {
            for (int a : new int[] {LOWEST, -1, 0, 1, HIGHEST}) {
                Counted x = started(NEW, 0, PUSH, 1, PUT, field, NEW, 0, PUSH, 1, PUT, field);
                x.request(WATCH, a, 1 - field, 1, 0);
                x.request(WATCH, a, field, 1, 0);
                due("run", x.run(50), 3);
                row("event", event(x), 1, WATCH, 0, 0, 2);
                x.resume(0);
                due("another object", x.run(50), 3);
                due("events", x.count(2), 2);
            }
        }
    }

    private static void watchesOnlyWhatIsDone() {
        sentence("a PUT that is done looks at the watches");
        int[][] faulting = {{PUT, 0}, {NEW, 0, PUT, 0}, {PUSH, 1, PUSH, 1, PUT, 0}, {PUSH, 1, NEW, 0, PUT, 0}};
        for (int[] pairs : faulting) {
            Counted x = started(pairs);
            x.request(WATCH, 0, 0, 1, 0);
            due("to the fault", x.run(50), pairs.length / 2);
            row("no event", of(x.count(2), x.thread(0, 1), x.thread(0, 2)), 0, 0, 2);
        }
        Counted x = started(NEW, 0, GET, 0, STORE, 0, PUSH, 0);
        x.request(WATCH, 0, 0, 1, 0);
        make(x, 4);
        due("GET is no PUT", x.count(2), 0);
    }

    private static void exceptions() {
        sentence("3 EXCEPTION: a throw that is caught (a = 1), is not caught (2), either (3); b means nothing");
        for (int a = 1; a <= 3; a++) {
            for (int b : new int[] {LOWEST, -1, 0, HIGHEST}) {
                Counted x = started(PUSH, 7, THROW, 0);
                x.handler(0, 11);
                x.request(EXCEPTION, a, b, 1, 0);
                make(x, 2);
                row("caught, a = " + a, of(x.count(2), x.thread(0, 1)), a == 2 ? 0 : 1, a == 2 ? 0 : 1);
                x = started(PUSH, 7, THROW, 0);
                x.request(EXCEPTION, a, b, 1, 0);
                make(x, 2);
                row("not caught, a = " + a, of(x.count(2), x.thread(0, 1)), a == 1 ? 0 : 1, a == 1 ? 0 : 1);
            }
        }
        Counted x = started(PUSH, 1, CALL, 1);
        x.code(1, PUSH, 1, THROW, 0);
        x.handler(0, 11);
        x.request(EXCEPTION, 1, 0, 1, 0);
        x.request(EXCEPTION, 2, 0, 1, 0);
        due("caught by a frame below", x.run(50), 4);
        row("event", event(x), 0, EXCEPTION, 0, 1, 1);
        due("events", x.count(2), 1);
    }

    private static void exceptionsOfFaults() {
        sentence("a throw looks at the exception requests; FAULTS throw the int told");
        int[][] faults = {{STORE, 0}, {PUSH, 0, GET, 0}, join(FULL_STACK, PUSH, 0), {GOTO, 1}};
        for (int i = 0; i < 4; i++) {
            Counted x = started(faults[i]);
            x.request(EXCEPTION, 2, 0, 2, 0);
            int steps = i == 3 ? 2 : faults[i].length / 2;
            due("fault " + (i + 1), x.run(50), steps);
            row("event", event(x), 0, EXCEPTION, 0, 0, steps - 1);
            row("all are suspended", suspendCounts(x), 1, 1, 1);
            due("result", x.result(0), i + 1);
        }
        Counted x = started(PUSH, 0, RETURN, 0);
        x.request(EXCEPTION, 3, 0, 1, 0);
        due("a RETURN is no throw", x.run(50), 2);
        due("no event", x.count(2), 0);
    }

    private static void entries() {
        sentence("4 ENTRY to the method a: before the instruction 0 of it");
        for (int method : new int[] {1, 5}) {
            Counted x = started(PUSH, 0, CALL, method, CALL, method);
            x.code(method, PUSH, 3, RETURN, 0);
            x.request(ENTRY, method, LOWEST, 1, 0);
            x.request(ENTRY, method - 1 == 0 ? 2 : method - 1, HIGHEST, 1, 0);
            due("the first frame", x.run(50), 3);
            row("event", event(x), 0, ENTRY, 0, method, 0);
            due("none is done", x.frame(0, 0, 3), 0);
            x.resume(0);
            due("the second frame", x.run(50), 4);
            x.resume(0);
            x.run(50);
            due("by a start", x.start(0, method, 0) + x.run(50), 1 + 1);
            due("events", x.count(2), 3);
        }
        Counted x = started(LOAD, 0, CALL, 0);
        x.request(ENTRY, 0, 0, 0, 0);
        make(x, 11);
        due("each of six frames of the same method", x.count(2), 6);
    }

    private static void entryOnlyWhileNoneIsDone() {
        sentence("4 ENTRY: while its frame has done none");
        Counted x = started(GOTO, 0);
        x.request(ENTRY, 0, 0, 0, 0);
        make(x, 50);
        due("back at 0 is no entry", x.count(2), 1);
        x = ran(1, GOTO, 0);
        x.request(ENTRY, 0, 0, 0, 0);
        make(x, 1);
        due("one that has begun", x.count(2), 0);
        x = started(ADD, 0);
        x.handler(0, 0);
        x.request(ENTRY, 0, 0, 0, 0);
        make(x, 3);
        due("what faults is not done", x.count(2), 3);
        x = still(0, PUSH, 0);
        x.handler(0, 0);
        x.request(ENTRY, 0, 0, 0, 0);
        due("raise", x.raise(0, 1), 1);
        go(x, 1);
        due("nor is anything by a raise", x.count(2), 1);
        x = still(0, PUSH, 0);
        x.handler(0, 1);
        x.request(ENTRY, 0, 0, 0, 0);
        x.raise(0, 1);
        go(x, 1);
        due("but the instruction 1 is no entry", x.count(2), 0);
    }

    private static void policies() {
        sentence("0 suspends nothing, 1 the thread whose step it was, 2 all threads; a suspend adds 1, once for each event");
        for (int thread = 0; thread < 3; thread++) {
            for (int policy = 0; policy <= 2; policy++) {
                Counted x = new Counted().code(0, GOTO, 0);
                x.request(BREAK, 0, 0, policy, 0);
                x.start(thread, 0, 0);
                make(x, 1);
                long[] due = new long[3];
                for (int i = 0; i < 3; i++) {
                    due[i] = policy == 2 || policy == 1 && i == thread ? 1 : 0;
                }
                row("thread " + thread + ", policy " + policy, suspendCounts(x), due);
            }
        }
        Counted x = started(GOTO, 0);
        x.suspend(1);
        x.request(BREAK, 0, 0, 2, 0);
        x.request(BREAK, 0, 0, 2, 0);
        due("run", x.run(50), 1);
        row("two events, threads without frames too", suspendCounts(x), 2, 3, 2);
    }

    private static void skips() {
        sentence("A SKIP n: it fits only from the (n + 1)th time on that it otherwise would (and makes no event before)");
        for (int skip : new int[] {0, 1, 8, 9}) {
            Counted x = started(GOTO, 0);
            x.request(BREAK, 0, 0, 1, skip);
            due("BREAK, skip " + skip, x.run(50), skip + 1);
            due("one event", x.count(2), 1);
            x.resume(0);
            due("and each time from then on", x.run(50), 2);
            x = started(NEW, 0, STORE, 1, LOAD, 1, PUSH, 1, PUT, 0, GOTO, 2);
            x.request(WATCH, 0, 0, 1, skip);
            due("WATCH, skip " + skip, x.run(50), 2 + 4 * skip + 3);
            due("one event", x.count(2), 1);
            x.resume(0);
            due("and each time from then on", x.run(50), 4);
            x = started(THROW, 0);
            x.handler(0, 0);
            x.request(EXCEPTION, 1, 0, 1, skip);
            due("EXCEPTION, skip " + skip, x.run(50), skip + 1);
            x = new Counted().code(0, PUSH, 0, CALL, 1, STORE, 0, GOTO, 0).code(1, PUSH, 0, RETURN, 0);
            x.start(0, 0, 0);
            x.request(ENTRY, 1, 0, 1, skip);
            make(x, 2 + 6 * skip);
            due("ENTRY, skip " + skip, x.count(2), 0);
            due("the time", x.run(50), 1);
            due("one event", x.count(2), 1);
        }
        Counted x = started(GOTO, 0);
        x.request(BREAK, 0, 0, 1, 0);
        x.request(BREAK, 0, 0, 0, 1);
        due("a time that another one stops counts too", x.run(50), 1);
        x.resume(0);
        due("and a place that is not looked at does not", x.run(1) + x.count(2), 1 + 1);
        due("the second time", x.run(50), 1);
        due("events", x.count(2), 3);
    }

    private static void skipOfAStep() {
        sentence("When it fits it is cleared: a time that is skipped is none");
        for (int skip : new int[] {0, 1, 8, 9}) {
            Counted x = started(GOTO, 1, GOTO, 2, GOTO, 3, GOTO, 4, GOTO, 3);
            x.request(STEP, 0, OVER, 1, skip);
            make(x, 3 + skip);
            row("skip " + skip, of(x.count(2), x.count(5)), 0, 1);
            due("the time", x.run(50), 1);
            row("event", event(x), 0, STEP, 0, 0, 3 + skip % 2);
            due("on", x.count(5), 0);
            x.resume(0);
            due("no second one", x.run(50) + x.count(2), 50 + 1);
        }
    }

    private static void twentyEvents() {
        sentence("EVENTS wait in a line, at most 20 (more are lost)");
        Counted x = started(GOTO, 0);
        x.request(BREAK, 0, 0, 0, 0);
        make(x, 19);
        row("19", of(x.count(2), x.count(3)), 19, 0);
        make(x, 1);
        row("20", of(x.count(2), x.count(3)), 20, 0);
        make(x, 1);
        row("21", of(x.count(2), x.count(3)), 20, 1);
        due("one is taken", x.next(), 19);
        make(x, 1);
        row("room for one", of(x.count(2), x.count(3)), 20, 1);
        make(x, 50);
        row("no more", of(x.count(2), x.count(3)), 20, 51);
    }

    private static void lostEvents() {
        sentence("more are lost: the last ones, which still suspend, count as a time, and clear a STEP");
        Counted x = started(PUSH, 0, STORE, 0, GOTO, 0);
        x.request(BREAK, 0, 0, 0, 0);
        for (int i = 0; i < 10; i++) {
            x.request(BREAK, 0, 1, 0, 0);
        }
        make(x, 3 + 3);
        row("22 were made", of(x.count(2), x.count(3)), 20, 2);
        for (int i = 19; i >= 0; i--) {
            due("in their order", x.event(0), (19 - i) % 11);
            due("next", x.next(), i);
        }
        x = started(PUSH, 0, STORE, 0, PUSH, 0, STORE, 0, GOTO, 0);
        for (int i = 0; i < 10; i++) {
            x.request(BREAK, 0, 1, 0, 0);
            x.clear(i);
        }
        x.request(BREAK, 0, 0, 0, 0);
        x.request(BREAK, 0, 2, 0, 0);
        make(x, 50);
        row("a full line", of(x.count(2), x.count(3)), 20, 0);
        x.request(STEP, 0, OVER, 1, 0);
        int steps = x.run(50);
        due("the run ends", steps < 50 ? 1 : 0, 1);
        row("it suspends and is cleared", of(x.thread(0, 1), x.count(5), x.clear(12), x.count(2)), 1, 2, 0, 20);
    }

    private static void lineGoesRound() {
        sentence("EVENTS wait in a line: the first one in is the first one out, however many have gone");
        Counted x = new Counted().code(0, PUSH, 0, STORE, 0, GOTO, 0);
        for (int at = 0; at < 3; at++) {
            x.request(BREAK, 0, at, 0, 0);
        }
        x.start(0, 0, 0);
        int taken = 0;
        for (int round = 0; round < 5; round++) {
            make(x, 17);
            for (int i = 0; i < 17; i++) {
                due("event " + taken, x.event(4), taken % 3);
                due("next", x.next(), 16 - i);
                taken++;
            }
        }
        due("none is left", x.next(), R);
        due("none was lost", x.count(3), 0);
    }

    private static void placeOfAnEvent() {
        sentence("the method and counter of the top frame before the instruction");
        Counted x = started(PUSH, 0, CALL, 5);
        x.code(5, NEW, 0, PUSH, 1, PUT, 1, THROW, 0);
        x.handler(0, 11);
        x.request(WATCH, 0, 1, 0, 0);
        x.request(EXCEPTION, 3, 0, 0, 0);
        x.request(BREAK, 0, 11, 0, 0);
        make(x, 7);
        row("PUT", event(x), 0, WATCH, 0, 5, 2);
        x.next();
        row("a fault that a frame below caught", event(x), 1, EXCEPTION, 0, 5, 3);
        x.next();
        row("the place of the handler", event(x), 2, BREAK, 0, 0, 11);
    }
}
