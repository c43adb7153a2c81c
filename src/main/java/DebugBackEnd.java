/**
 * The back end of a debugger and the small machine that it looks into.
 *
 * Everything that a run of calls needs is made in the constructors and used again: no call makes an object.
 */
public final class DebugBackEnd {
    public static final int REFUSED = -1000000000;
    public static final long REFERENCE = 10000000000L;
    public static final long NO_ID = 20000000000L;
    public static final long GONE = 20000000001L;
    public static final long NONE = 20000000002L;

    private static final int METHODS = 6;
    private static final int INSTRUCTIONS = 12;
    private static final int LINE_LENGTH = 3;
    private static final int THREADS = 3;
    private static final int ALL_THREADS = 3;
    private static final int FRAMES = 6;
    private static final int LOCALS = 4;
    private static final int STACK = 8;
    private static final int OBJECTS = 40;
    private static final int FIELDS = 2;
    private static final int IDS = 64;
    private static final int REQUESTS = 16;
    private static final int EVENTS = 20;
    private static final int EVENT_PARTS = 5;
    private static final int LONGEST_RUN = 50;
    private static final int HIGHEST_POLICY = 2;
    private static final int HIGHEST_SKIP = 9;

    private static final int PUSH = 0;
    private static final int LOAD = 1;
    private static final int STORE = 2;
    private static final int ADD = 3;
    private static final int LESS = 4;
    private static final int NEW = 5;
    private static final int GET = 6;
    private static final int PUT = 7;
    private static final int CALL = 8;
    private static final int RETURN = 9;
    private static final int GOTO = 10;
    private static final int ZERO = 11;
    private static final int THROW = 12;
    private static final int OPS = 13;

    private static final int BREAK = 0;
    private static final int STEP = 1;
    private static final int WATCH = 2;
    private static final int EXCEPTION = 3;
    private static final int ENTRY = 4;
    private static final int KINDS = 5;

    private static final int INTO = 0;
    private static final int OUT = 2;

    private static final int NO_FAULT = 0;
    private static final int TOO_FEW_VALUES = 1;
    private static final int WRONG_VALUE = 2;
    private static final int NO_ROOM = 3;
    private static final int NO_INSTRUCTION = 4;

    // What a step shows to the requests. CAUGHT and NOT_CAUGHT are the bits of an exception request's a.
    private static final int QUIET = 0;
    private static final int CAUGHT = 1;
    private static final int NOT_CAUGHT = 2;
    private static final int PUT_TO_FIELD = 4;
    private static final int BEFORE_INSTRUCTION = 8;

    private static final int POLICY_NOTHING = 0;
    private static final int POLICY_ALL = 2;

    private static final int LOWEST = -2147483648;
    private static final int HIGHEST = 2147483647;

    // By op: the range of x, and how many values the instruction must find.
    private static final int[] X_FROM =
        {-1000, 0, 0, LOWEST, LOWEST, LOWEST, 0, 0, 0, LOWEST, 0, 0, LOWEST};
    private static final int[] X_TO =
        {1000, 3, 3, HIGHEST, HIGHEST, HIGHEST, 1, 1, 5, HIGHEST, 11, 11, HIGHEST};
    private static final int[] VALUES_NEEDED =
        {0, 0, 1, 2, 2, 0, 1, 2, 1, 1, 0, 1, 1};

    // By kind of request: the ranges of a and b.
    private static final int[] A_FROM = {0, 0, LOWEST, 1, 0};
    private static final int[] A_TO = {5, 2, HIGHEST, 3, 5};
    private static final int[] B_FROM = {0, 0, 0, LOWEST, LOWEST};
    private static final int[] B_TO = {11, 2, 1, HIGHEST, HIGHEST};

    private final Code code;
    private final Heap heap;
    private final Machine machine;
    private final Strand[] strands;
    private final Request[] requests;
    private final EventLine events;
    private int requestsMade;
    private int lastToStep;
    private int stepsMade;

    public DebugBackEnd() {
        code = new Code();
        heap = new Heap();
        machine = new Machine(code, heap);
        strands = new Strand[THREADS];
        for (int i = 0; i < THREADS; i++) {
            strands[i] = new Strand();
        }
        requests = new Request[REQUESTS];
        for (int i = 0; i < REQUESTS; i++) {
            requests[i] = new Request();
        }
        events = new EventLine();
        requestsMade = 0;
        lastToStep = THREADS - 1;
        stepsMade = 0;
    }

    public int instr(int method, int op, int x) {
        if (!within(method, 0, METHODS - 1) || !within(op, 0, OPS - 1) || !within(x, X_FROM[op], X_TO[op])) {
            return REFUSED;
        }
        return code.add(method, op, x);
    }

    public int handler(int method, int at) {
        if (!within(method, 0, METHODS - 1) || !within(at, -1, INSTRUCTIONS - 1)) {
            return REFUSED;
        }
        int before = code.handlers[method];
        code.handlers[method] = at;
        return before;
    }

    public int start(int thread, int method, int value) {
        if (!isThread(thread) || !within(method, 0, METHODS - 1) || strands[thread].frameCount > 0) {
            return REFUSED;
        }
        boolean wasOver = strands[thread].over;
        strands[thread].begin(method, value);
        return wasOver ? 1 : 0;
    }

    public int run(int n) {
        if (!within(n, 1, LONGEST_RUN)) {
            return REFUSED;
        }
        int made = 0;
        boolean ended = false;
        for (int i = 0; i < n && !ended; i++) {
            int thread = nextToStep();
            if (thread < 0) {
                ended = true;
            } else {
                ended = makeStep(thread);
                made++;
            }
        }
        return made;
    }

    public int request(int kind, int a, int b, int policy, int skip) {
        if (!within(kind, 0, KINDS - 1) || !within(a, A_FROM[kind], A_TO[kind]) || !within(b, B_FROM[kind], B_TO[kind])
                || !within(policy, 0, HIGHEST_POLICY) || !within(skip, 0, HIGHEST_SKIP)) {
            return REFUSED;
        }
        if (requestsMade >= REQUESTS || kind == STEP && strands[a].frameCount == 0) {
            return REFUSED;
        }
        Request made = requests[requestsMade];
        made.ask(kind, a, b);
        made.limit(policy, skip);
        if (kind == STEP) {
            made.beginAt(strands[a]);
        }
        requestsMade++;
        return requestsMade - 1;
    }

    public int clear(int request) {
        if (!within(request, 0, requestsMade - 1)) {
            return REFUSED;
        }
        boolean wasOn = requests[request].on;
        requests[request].on = false;
        return wasOn ? 1 : 0;
    }

    public int suspend(int thread) {
        if (!within(thread, 0, ALL_THREADS)) {
            return REFUSED;
        }
        addToSuspendCount(thread);
        return suspendCountTold(thread);
    }

    public int resume(int thread) {
        if (!within(thread, 0, ALL_THREADS)) {
            return REFUSED;
        }
        for (int i = 0; i < THREADS; i++) {
            if ((thread == i || thread == ALL_THREADS) && strands[i].suspendCount > 0) {
                strands[i].suspendCount--;
            }
        }
        return suspendCountTold(thread);
    }

    public int event(int what) {
        if (!within(what, 0, EVENT_PARTS - 1) || events.waiting == 0) {
            return REFUSED;
        }
        return events.partOfFirst(what);
    }

    public int next() {
        if (events.waiting == 0) {
            return REFUSED;
        }
        events.takeFirst();
        return events.waiting;
    }

    public int frame(int thread, int f, int what) {
        Frame found = frameOfStill(thread, f);
        if (found == null) {
            return REFUSED;
        }
        switch (what) {
            case 0: return found.method;
            case 1: return found.counter;
            case 2: return found.lineOfCounter();
            case 3: return found.depth;
            default: return REFUSED;
        }
    }

    public long local(int thread, int f, int k) {
        Frame found = frameOfStill(thread, f);
        if (found == null || k < 0) {
            return NONE;
        }
        if (k < LOCALS) {
            return heap.told(found.locals[k]);
        }
        int place = k - LOCALS;
        return place < found.depth ? heap.told(found.stack[place]) : NONE;
    }

    public int setInt(int thread, int f, int k, int value) {
        return setLocal(thread, f, k, value);
    }

    public int setReference(int thread, int f, int k, int id) {
        if (id == -1) {
            return setLocal(thread, f, k, Heap.TO_NONE);
        }
        if (!heap.holds(id)) {
            return REFUSED;
        }
        return setLocal(thread, f, k, heap.referenceOf(id));
    }

    public long field(int id, int field) {
        if (!heap.isGiven(id) || !within(field, 0, FIELDS - 1)) {
            return NONE;
        }
        if (!heap.holds(id)) {
            return GONE;
        }
        return heap.told(heap.read(heap.referenceOf(id), field));
    }

    public int pin(int id, boolean on) {
        if (!heap.holds(id)) {
            return REFUSED;
        }
        return heap.setPinned(id, on) ? 1 : 0;
    }

    public int collect() {
        heap.beginToReach();
        for (int i = 0; i < THREADS; i++) {
            strands[i].reachItsObjects(heap);
        }
        heap.reachOn();
        return heap.loseUnreached();
    }

    public int pop(int thread, int f) {
        if (frameOfStill(thread, f) == null || f + 1 >= strands[thread].frameCount) {
            return REFUSED;
        }
        strands[thread].undoCall(f);
        return strands[thread].frameCount;
    }

    public int force(int thread, int value) {
        if (!isStill(thread)) {
            return REFUSED;
        }
        strands[thread].giveBack(value);
        strands[thread].stopped = false;
        return strands[thread].frameCount;
    }

    public int raise(int thread, int value) {
        if (!isStill(thread)) {
            return REFUSED;
        }
        strands[thread].throwValue(value, code);
        strands[thread].stopped = false;
        return strands[thread].frameCount;
    }

    public long result(int thread) {
        if (!isThread(thread) || !strands[thread].over) {
            return NONE;
        }
        return heap.told(strands[thread].outcome);
    }

    public int thread(int thread, int what) {
        if (!isThread(thread)) {
            return REFUSED;
        }
        switch (what) {
            case 0: return strands[thread].frameCount;
            case 1: return strands[thread].suspendCount;
            case 2: return strands[thread].condition();
            default: return REFUSED;
        }
    }

    public int count(int what) {
        switch (what) {
            case 0: return heap.objectsThere;
            case 1: return heap.idsGiven;
            case 2: return events.waiting;
            case 3: return events.lost;
            case 4: return requestsMade;
            case 5: return requestsOn();
            case 6: return stepsMade;
            case 7: return heap.objectsPinned;
            default: return REFUSED;
        }
    }

    private static boolean within(int number, int from, int to) {
        return number >= from && number <= to;
    }

    private static boolean isThread(int thread) {
        return within(thread, 0, THREADS - 1);
    }

    private boolean isStill(int thread) {
        return isThread(thread) && strands[thread].frameCount > 0 && strands[thread].suspendCount > 0;
    }

    private Frame frameOfStill(int thread, int f) {
        return isStill(thread) ? strands[thread].fromTop(f) : null;
    }

    private int setLocal(int thread, int f, int k, long value) {
        Frame found = frameOfStill(thread, f);
        if (found == null || !within(k, 0, LOCALS - 1)) {
            return REFUSED;
        }
        found.locals[k] = value;
        return 1;
    }

    private int suspendCountTold(int thread) {
        return strands[thread == ALL_THREADS ? 0 : thread].suspendCount;
    }

    private int requestsOn() {
        int on = 0;
        for (int i = 0; i < requestsMade; i++) {
            if (requests[i].on) {
                on++;
            }
        }
        return on;
    }

    /** The thread whose turn it is, or -1 if none can make a step. */
    private int nextToStep() {
        for (int i = 1; i <= THREADS; i++) {
            int thread = (lastToStep + i) % THREADS;
            if (strands[thread].frameCount > 0 && strands[thread].suspendCount == 0) {
                return thread;
            }
        }
        return -1;
    }

    /** True if an event of the step suspends, which ends the run. */
    private boolean makeStep(int thread) {
        Strand strand = strands[thread];
        lastToStep = thread;
        stepsMade++;
        events.setPlace(thread, strand.top());
        if (!strand.stopped && makeEvents(thread, BEFORE_INSTRUCTION)) {
            strand.stopped = true;
            return true;
        }
        strand.stopped = false;
        int shown = machine.execute(strand);
        return shown != QUIET && makeEvents(thread, shown);
    }

    /** Makes the events for what the step shows; true if one of them suspends. */
    private boolean makeEvents(int thread, int shown) {
        boolean suspends = false;
        for (int i = 0; i < requestsMade; i++) {
            Request asked = requests[i];
            if (asked.on && asked.wants(thread, strands[thread], shown) && asked.comesAfterSkip()) {
                events.add(i, asked.kind);
                if (asked.policy != POLICY_NOTHING) {
                    addToSuspendCount(asked.policy == POLICY_ALL ? ALL_THREADS : thread);
                    suspends = true;
                }
            }
        }
        return suspends;
    }

    /** Of one thread, or of all. */
    private void addToSuspendCount(int thread) {
        for (int i = 0; i < THREADS; i++) {
            if (thread == i || thread == ALL_THREADS) {
                strands[i].suspendCount++;
            }
        }
    }

    /** The methods: their instructions, one row behind the other, and their handlers. */
    private static final class Code {
        final int[] ops;
        final int[] xs;
        final int[] sizes;
        final int[] handlers;

        Code() {
            ops = new int[METHODS * INSTRUCTIONS];
            xs = new int[METHODS * INSTRUCTIONS];
            sizes = new int[METHODS];
            handlers = new int[METHODS];
            for (int i = 0; i < METHODS; i++) {
                handlers[i] = -1;
            }
        }

        int add(int method, int op, int x) {
            if (sizes[method] >= INSTRUCTIONS) {
                return REFUSED;
            }
            int place = method * INSTRUCTIONS + sizes[method];
            ops[place] = op;
            xs[place] = x;
            sizes[method]++;
            return sizes[method];
        }
    }

    /**
     * The objects, in places that are used again when one is gone. A value is held as a long: an int as itself, a
     * reference as REFERENCE plus the place of its object, so that an ID need not be given before it is answered.
     */
    private static final class Heap {
        static final long TO_NONE = REFERENCE - 1;
        static final int NO_PLACE = -1;

        final long[] fields;
        final boolean[] there;
        final boolean[] pinned;
        final boolean[] reached;
        final int[] reachedPlaces;
        final int[] idOfPlace;
        final int[] placeOfId;
        int reachedCount;
        int objectsThere;
        int objectsPinned;
        int idsGiven;

        Heap() {
            fields = new long[OBJECTS * FIELDS];
            there = new boolean[OBJECTS];
            pinned = new boolean[OBJECTS];
            reached = new boolean[OBJECTS];
            reachedPlaces = new int[OBJECTS];
            idOfPlace = new int[OBJECTS];
            placeOfId = new int[IDS];
            reachedCount = 0;
            objectsThere = 0;
            objectsPinned = 0;
            idsGiven = 0;
        }

        static boolean isReference(long value) {
            return value >= TO_NONE;
        }

        /** The place of the object that a value refers to, or NO_PLACE. */
        static int placeOf(long value) {
            return value >= REFERENCE && value < REFERENCE + OBJECTS ? (int) (value - REFERENCE) : NO_PLACE;
        }

        static boolean isToObject(long value) {
            return placeOf(value) != NO_PLACE;
        }

        boolean isFull() {
            return objectsThere >= OBJECTS;
        }

        long make() {
            for (int i = 0; i < OBJECTS; i++) {
                if (!there[i]) {
                    there[i] = true;
                    pinned[i] = false;
                    idOfPlace[i] = -1;
                    for (int k = 0; k < FIELDS; k++) {
                        fields[i * FIELDS + k] = 0;
                    }
                    objectsThere++;
                    return REFERENCE + i;
                }
            }
            return TO_NONE;
        }

        long read(long reference, int field) {
            int place = placeOf(reference);
            return place == NO_PLACE ? 0 : fields[place * FIELDS + field];
        }

        void write(long reference, int field, long value) {
            int place = placeOf(reference);
            if (place != NO_PLACE) {
                fields[place * FIELDS + field] = value;
            }
        }

        /** A value as a call answers it; gives the object its ID if it has none yet. */
        long told(long value) {
            int place = placeOf(value);
            if (place == NO_PLACE) {
                return value;
            }
            if (idOfPlace[place] < 0) {
                if (idsGiven >= IDS) {
                    return NO_ID;
                }
                idOfPlace[place] = idsGiven;
                placeOfId[idsGiven] = place;
                idsGiven++;
            }
            return REFERENCE + idOfPlace[place];
        }

        boolean isGiven(int id) {
            return id >= 0 && id < idsGiven;
        }

        boolean holds(int id) {
            return isGiven(id) && placeOfId[id] != NO_PLACE;
        }

        long referenceOf(int id) {
            return holds(id) ? REFERENCE + placeOfId[id] : TO_NONE;
        }

        /** True if that changes something. */
        boolean setPinned(int id, boolean on) {
            if (!holds(id) || pinned[placeOfId[id]] == on) {
                return false;
            }
            pinned[placeOfId[id]] = on;
            objectsPinned += on ? 1 : -1;
            return true;
        }

        void beginToReach() {
            reachedCount = 0;
            for (int i = 0; i < OBJECTS; i++) {
                reached[i] = false;
            }
            for (int i = 0; i < OBJECTS; i++) {
                if (pinned[i]) {
                    reach(REFERENCE + i);
                }
            }
        }

        void reach(long value) {
            int place = placeOf(value);
            if (place != NO_PLACE && !reached[place] && reachedCount < OBJECTS) {
                reached[place] = true;
                reachedPlaces[reachedCount] = place;
                reachedCount++;
            }
        }

        /** Goes along the fields of all that is reached; what that reaches is added behind, and gone along too. */
        void reachOn() {
            for (int i = 0; i < OBJECTS && i < reachedCount; i++) {
                for (int k = 0; k < FIELDS; k++) {
                    reach(fields[reachedPlaces[i] * FIELDS + k]);
                }
            }
        }

        int loseUnreached() {
            int lost = 0;
            for (int i = 0; i < OBJECTS; i++) {
                if (there[i] && !reached[i]) {
                    there[i] = false;
                    if (idOfPlace[i] >= 0) {
                        placeOfId[idOfPlace[i]] = NO_PLACE;
                    }
                    lost++;
                }
            }
            objectsThere -= lost;
            return lost;
        }
    }

    private static final class Frame {
        final long[] locals;
        final long[] stack;
        int method;
        int counter;
        int depth;
        long argument;
        boolean hasDoneNone;

        Frame() {
            locals = new long[LOCALS];
            stack = new long[STACK];
        }

        void beginIn(int itsMethod, long value) {
            method = itsMethod;
            counter = 0;
            depth = 0;
            argument = value;
            hasDoneNone = true;
            locals[0] = value;
            for (int i = 1; i < LOCALS; i++) {
                locals[i] = 0;
            }
        }

        int lineOfCounter() {
            return counter / LINE_LENGTH;
        }

        boolean isFull() {
            return depth >= STACK;
        }

        void put(long value) {
            if (depth < STACK) {
                stack[depth] = value;
                depth++;
            }
        }

        long take() {
            if (depth == 0) {
                return 0;
            }
            depth--;
            return stack[depth];
        }

        /** The value that lies under so many others. */
        long under(int others) {
            int place = depth - 1 - others;
            return place >= 0 && place < STACK ? stack[place] : 0;
        }

        void catchAt(int handler, long thrown) {
            stack[0] = thrown;
            depth = 1;
            counter = handler;
        }

        void reachItsValues(Heap heap) {
            heap.reach(argument);
            for (int i = 0; i < LOCALS; i++) {
                heap.reach(locals[i]);
            }
            for (int i = 0; i < depth && i < STACK; i++) {
                heap.reach(stack[i]);
            }
        }
    }

    /** A thread of the machine. */
    private static final class Strand {
        static final int IDLE = 0;
        static final int WITH_FRAMES = 1;
        static final int OVER = 2;

        final Frame[] frames;
        int frameCount;
        int suspendCount;
        boolean over;
        boolean stopped;
        long outcome;

        Strand() {
            frames = new Frame[FRAMES];
            for (int i = 0; i < FRAMES; i++) {
                frames[i] = new Frame();
            }
        }

        int condition() {
            if (frameCount > 0) {
                return WITH_FRAMES;
            }
            return over ? OVER : IDLE;
        }

        Frame top() {
            return fromTop(0);
        }

        /** The frame f, counted from the top, or null. */
        Frame fromTop(int f) {
            return f >= 0 && f < frameCount ? frames[frameCount - 1 - f] : null;
        }

        boolean isFull() {
            return frameCount >= FRAMES;
        }

        void begin(int method, long value) {
            over = false;
            outcome = 0;
            stopped = false;
            enter(method, value);
        }

        void enter(int method, long value) {
            if (frameCount < FRAMES) {
                frames[frameCount].beginIn(method, value);
                frameCount++;
            }
        }

        void giveBack(long value) {
            if (frameCount <= 1) {
                finish(value);
                return;
            }
            frameCount--;
            frames[frameCount - 1].put(value);
        }

        void finish(long value) {
            frameCount = 0;
            over = true;
            outcome = value;
        }

        /** Throws the value; true if a frame caught it, false if the thread is over. */
        boolean throwValue(long thrown, Code code) {
            for (int i = frameCount - 1; i >= 0; i--) {
                int handler = code.handlers[frames[i].method];
                if (handler >= 0) {
                    frameCount = i + 1;
                    frames[i].catchAt(handler, thrown);
                    return true;
                }
            }
            finish(thrown);
            return false;
        }

        /** Takes the frame f and those above it; the one below stands before its CALL again. */
        void undoCall(int f) {
            Frame lowest = fromTop(f);
            Frame caller = fromTop(f + 1);
            if (lowest == null || caller == null) {
                return;
            }
            frameCount -= f + 1;
            // A frame that has another one upon it has always just gone on behind its CALL.
            caller.counter--;
            caller.put(lowest.argument);
            stopped = false;
        }

        void reachItsObjects(Heap heap) {
            if (over) {
                heap.reach(outcome);
            }
            for (int i = 0; i < frameCount; i++) {
                frames[i].reachItsValues(heap);
            }
        }
    }

    /** Does instructions. */
    private static final class Machine {
        final Code code;
        final Heap heap;

        Machine(Code itsCode, Heap itsHeap) {
            code = itsCode;
            heap = itsHeap;
        }

        /** Does the next instruction of a thread; answers what that shows to the requests. */
        int execute(Strand strand) {
            Frame top = strand.top();
            if (top == null) {
                return QUIET;
            }
            if (top.counter >= code.sizes[top.method]) {
                return throwIn(strand, NO_INSTRUCTION);
            }
            int place = top.method * INSTRUCTIONS + top.counter;
            int op = code.ops[place];
            int fault = faultOf(strand, top, op);
            if (fault != NO_FAULT) {
                return throwIn(strand, fault);
            }
            top.hasDoneNone = false;
            top.counter++;
            return perform(strand, top, op, code.xs[place]);
        }

        int throwIn(Strand strand, long thrown) {
            return strand.throwValue(thrown, code) ? CAUGHT : NOT_CAUGHT;
        }

        int faultOf(Strand strand, Frame top, int op) {
            if (top.depth < VALUES_NEEDED[op]) {
                return TOO_FEW_VALUES;
            }
            if (!findsRightValues(top, op)) {
                return WRONG_VALUE;
            }
            return hasRoom(strand, top, op) ? NO_FAULT : NO_ROOM;
        }

        boolean findsRightValues(Frame top, int op) {
            switch (op) {
                case ADD:
                case LESS:
                    return !Heap.isReference(top.under(0)) && !Heap.isReference(top.under(1));
                case GET:
                    return Heap.isToObject(top.under(0));
                case PUT:
                    return Heap.isToObject(top.under(1));
                default:
                    return true;
            }
        }

        boolean hasRoom(Strand strand, Frame top, int op) {
            switch (op) {
                case PUSH:
                case LOAD:
                    return !top.isFull();
                case NEW:
                    return !top.isFull() && !heap.isFull();
                case CALL:
                    return !strand.isFull();
                default:
                    return true;
            }
        }

        int perform(Strand strand, Frame top, int op, int x) {
            switch (op) {
                case CALL:
                    strand.enter(x, top.take());
                    return QUIET;
                case RETURN:
                    strand.giveBack(top.take());
                    return QUIET;
                case THROW:
                    return throwIn(strand, top.take());
                case PUT:
                    putToField(top, x);
                    return PUT_TO_FIELD + x;
                default:
                    performInFrame(top, op, x);
                    return QUIET;
            }
        }

        void putToField(Frame top, int x) {
            long value = top.take();
            heap.write(top.take(), x, value);
        }

        void performInFrame(Frame top, int op, int x) {
            switch (op) {
                case PUSH:
                    top.put(x);
                    break;
                case LOAD:
                    top.put(top.locals[x]);
                    break;
                case STORE:
                    top.locals[x] = top.take();
                    break;
                case ADD:
                    top.put((int) top.take() + (int) top.take());
                    break;
                case LESS:
                    // The right one lies on top, so it is taken first.
                    top.put(top.take() > top.take() ? 1 : 0);
                    break;
                case NEW:
                    top.put(heap.make());
                    break;
                case GET:
                    top.put(heap.read(top.take(), x));
                    break;
                case GOTO:
                    top.counter = x;
                    break;
                case ZERO:
                    if (top.take() == 0) {
                        top.counter = x;
                    }
                    break;
                default:
                    break;
            }
        }
    }

    private static final class Request {
        int kind;
        int a;
        int b;
        int policy;
        int skipsLeft;
        boolean on;
        int framesAtFirst;
        int lineAtFirst;

        void ask(int itsKind, int itsA, int itsB) {
            kind = itsKind;
            a = itsA;
            b = itsB;
            on = true;
        }

        void limit(int itsPolicy, int skip) {
            policy = itsPolicy;
            skipsLeft = skip;
        }

        void beginAt(Strand strand) {
            Frame top = strand.top();
            framesAtFirst = strand.frameCount;
            lineAtFirst = top == null ? 0 : top.lineOfCounter();
        }

        /** Whether it would fit, but for its skip, what a step of the thread shows. */
        boolean wants(int thread, Strand strand, int shown) {
            if (shown == BEFORE_INSTRUCTION) {
                return wantsPlace(thread, strand);
            }
            if (shown >= PUT_TO_FIELD) {
                return kind == WATCH && shown == PUT_TO_FIELD + b;
            }
            return kind == EXCEPTION && (a & shown) != 0;
        }

        boolean wantsPlace(int thread, Strand strand) {
            Frame top = strand.top();
            if (top == null) {
                return false;
            }
            switch (kind) {
                case BREAK:
                    return top.method == a && top.counter == b;
                case STEP:
                    return thread == a && wantsStep(strand.frameCount, top.lineOfCounter());
                case ENTRY:
                    return top.method == a && top.counter == 0 && top.hasDoneNone;
                default:
                    return false;
            }
        }

        boolean wantsStep(int frames, int line) {
            if (frames < framesAtFirst) {
                return true;
            }
            if (frames > framesAtFirst) {
                return b == INTO;
            }
            return b != OUT && line != lineAtFirst;
        }

        /** Counts a time that it would fit; true if it does. A step is good for one event only. */
        boolean comesAfterSkip() {
            if (skipsLeft > 0) {
                skipsLeft--;
                return false;
            }
            if (kind == STEP) {
                on = false;
            }
            return true;
        }
    }

    /** The events that wait, in a ring of rows of five, and the place of the step that makes them. */
    private static final class EventLine {
        final int[] parts;
        int first;
        int waiting;
        int lost;
        int thread;
        int method;
        int counter;

        EventLine() {
            parts = new int[EVENTS * EVENT_PARTS];
        }

        void setPlace(int itsThread, Frame top) {
            thread = itsThread;
            method = top == null ? 0 : top.method;
            counter = top == null ? 0 : top.counter;
        }

        void add(int request, int kind) {
            if (waiting >= EVENTS) {
                lost++;
                return;
            }
            int row = (first + waiting) % EVENTS * EVENT_PARTS;
            parts[row] = request;
            parts[row + 1] = kind;
            parts[row + 2] = thread;
            parts[row + 3] = method;
            parts[row + 4] = counter;
            waiting++;
        }

        int partOfFirst(int what) {
            return parts[first * EVENT_PARTS + what];
        }

        void takeFirst() {
            first = (first + 1) % EVENTS;
            waiting--;
        }
    }
}
