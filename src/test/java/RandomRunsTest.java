import java.util.ArrayList;
import java.util.Arrays;
import java.util.List;
import java.util.Random;

/**
 * Long random runs of calls. Their answers are those of the plain model; refused calls change nothing; no call throws;
 * and a call makes no objects.
 */
public final class RandomRunsTest {
    private static final int RUNS = 4000;
    private static final int CALLS = 512;
    private static final int[] ARGUMENTS = {3, 2, 3, 1, 5, 1, 1, 1, 1, 0, 3, 3, 4, 4, 2, 2, 0, 2, 2, 2, 1, 2, 1};
    private static final int[] ODD = {Integer.MIN_VALUE, Integer.MIN_VALUE + 1, -1001, -1000, -2, -1, 2, 3, 4, 5, 6, 11,
        12, 13, 50, 51, 63, 64, 1000, 1001, Integer.MAX_VALUE - 1, Integer.MAX_VALUE};
    /** How often each call is made, from promise 2 on. */
    private static final int[] WEIGHTS = {2, 2, 12, 40, 4, 3, 12, 16, 4, 6, 6, 20, 5, 6, 10, 6, 4, 3, 2, 2, 4, 4, 6};
    /** Rows of op, x that make sense together; a purely random method ends in a fault at once. */
    private static final int[][] SNIPPETS = {{5, 0, 2, 1}, {5, 0, 2, 2}, {5, 0}, {1, 1, 1, 2, 7, 0}, {1, 2, 1, 1, 7, 1},
        {1, 1, 5, 0, 7, 0}, {1, 1, 0, 7, 7, 1}, {1, 1, 6, 0, 2, 2}, {1, 1, 8, 1}, {1, 0, 8, 2}, {0, 5, 8, 3}, {5, 0, 8, 1},
        {1, 1, 9, 0}, {0, 3, 9, 0}, {0, 0, 11, 3}, {10, 0}, {10, 2}, {0, 1, 0, 2, 3, 0, 2, 3}, {0, 1, 1, 3, 4, 0},
        {1, 1, 12, 0}, {0, 9, 12, 0}, {2, 0}, {3, 0}, {6, 1}};

    private static final Check check = new Check("RandomRunsTest");
    private static final long[] answered = new long[25];
    private static final long[] refused = new long[25];

    public static void main(String[] args) {
        for (int i = 0; i < RUNS; i++) {
            againstModel(i);
        }
        for (int promise = 2; promise <= 24; promise++) {
            check.part("the runs are wide enough, promise " + promise);
            check.due("answered often", answered[promise] > 500 ? 1 : 0, 1);
            check.due("refused often", refused[promise] > 500 || promise == 18 ? 1 : 0, 1);
        }
        makesNoObjects();
        doesNotThrowLater();
        check.end();
    }

    private static void againstModel(int seed) {
        Random random = new Random(seed);
        check.part("seed " + seed);
        DebugBackEnd whole = new DebugBackEnd();
        DebugBackEnd withoutRefused = new DebugBackEnd();
        PlainModel model = new PlainModel();
        int odd = random.nextInt(3) == 0 ? 10 : 100;
        List<int[]> setUp = setUp(random);
        for (int i = 0; i < CALLS; i++) {
            int promise = i < setUp.size() ? promiseOf(setUp.get(i)) : pick(random);
            int[] n = i < setUp.size() ? setUp.get(i) : arguments(random, promise, odd);
            long due = model.call(promise, n);
            String call = i + ": " + promise + Arrays.toString(n);
            check.due(call, call(whole, promise, n), due);
            boolean isRefused = due == DebugBackEnd.REFUSED || due == DebugBackEnd.NONE;
            if (isRefused) {
                refused[promise]++;
            } else {
                answered[promise]++;
                check.due(call + " without refused calls", call(withoutRefused, promise, n), due);
            }
        }
    }

    private static List<int[]> setUp(Random random) {
        List<int[]> calls = new ArrayList<>();
        for (int method = 0; method < 4; method++) {
            int snippets = random.nextInt(6);
            if (random.nextInt(3) > 0) {
                calls.add(new int[] {method, 5, 0});
                calls.add(new int[] {method, 2, 1});
                calls.add(new int[] {method, random.nextInt(4) - 1});
            }
            for (int i = 0; i < snippets; i++) {
                int[] snippet = SNIPPETS[random.nextInt(SNIPPETS.length)];
                for (int k = 0; k < snippet.length; k += 2) {
                    calls.add(new int[] {method, snippet[k], snippet[k + 1]});
                }
            }
        }
        return calls;
    }

    private static int promiseOf(int[] setUpCall) {
        return setUpCall.length == 3 ? 2 : 3;
    }

    private static int pick(Random random) {
        int sum = 0;
        for (int weight : WEIGHTS) {
            sum += weight;
        }
        int at = random.nextInt(sum);
        for (int i = 0; i < WEIGHTS.length; i++) {
            at -= WEIGHTS[i];
            if (at < 0) {
                return i + 2;
            }
        }
        return 24;
    }

    private static int[] arguments(Random random, int promise, int odd) {
        int[] n = new int[ARGUMENTS[promise - 2]];
        for (int k = 0; k < n.length; k++) {
            n[k] = random.nextInt(odd) == 0 ? ODD[random.nextInt(ODD.length)] : usual(random, promise, k);
        }
        return n;
    }

    private static int usual(Random random, int promise, int k) {
        switch (promise) {
            case 2:
                return k == 0 ? random.nextInt(6) : k == 1 ? random.nextInt(13) : random.nextInt(4);
            case 3: return k == 0 ? random.nextInt(4) : random.nextInt(8) - 1;
            case 4: return k == 0 ? random.nextInt(5) / 2 : k == 1 ? random.nextInt(4) : random.nextInt(5);
            case 5: return 1 + random.nextInt(random.nextInt(4) == 0 ? 50 : 8);
            case 6: return new int[] {random.nextInt(5), random.nextInt(4), random.nextInt(5), random.nextInt(3),
                Math.max(0, random.nextInt(6) - 3)}[k];
            case 7: return random.nextInt(8);
            case 8: return random.nextInt(7) / 2;
            case 9: return random.nextInt(7) / 2;
            case 12: case 13: case 14: case 15:
                return k == 0 ? random.nextInt(5) / 2 : k == 1 ? random.nextInt(6) / 3 : random.nextInt(6) - k / 3;
            case 16: case 17: return random.nextInt(k == 0 ? 8 : 2);
            case 24: return random.nextInt(8);
            default: return random.nextInt(5) / 2;
        }
    }

    private static long call(DebugBackEnd x, int promise, int[] n) {
        switch (promise) {
            case 2: return x.instr(n[0], n[1], n[2]);
            case 3: return x.handler(n[0], n[1]);
            case 4: return x.start(n[0], n[1], n[2]);
            case 5: return x.run(n[0]);
            case 6: return x.request(n[0], n[1], n[2], n[3], n[4]);
            case 7: return x.clear(n[0]);
            case 8: return x.suspend(n[0]);
            case 9: return x.resume(n[0]);
            case 10: return x.event(n[0]);
            case 11: return x.next();
            case 12: return x.frame(n[0], n[1], n[2]);
            case 13: return x.local(n[0], n[1], n[2]);
            case 14: return x.setInt(n[0], n[1], n[2], n[3]);
            case 15: return x.setReference(n[0], n[1], n[2], n[3]);
            case 16: return x.field(n[0], n[1]);
            case 17: return x.pin(n[0], n[1] == 1);
            case 18: return x.collect();
            case 19: return x.pop(n[0], n[1]);
            case 20: return x.force(n[0], n[1]);
            case 21: return x.raise(n[0], n[1]);
            case 22: return x.result(n[0]);
            case 23: return x.thread(n[0], n[1]);
            default: return x.count(n[0]);
        }
    }

    private static void makesNoObjects() {
        check.part("room");
        Random random = new Random(1);
        List<int[]> setUp = setUp(random);
        int[] promises = new int[CALLS];
        int[][] arguments = new int[CALLS][];
        for (int i = 0; i < CALLS; i++) {
            promises[i] = i < setUp.size() ? promiseOf(setUp.get(i)) : pick(random);
            arguments[i] = i < setUp.size() ? setUp.get(i) : arguments(random, promises[i], 50);
        }
        DebugBackEnd x = new DebugBackEnd();
        com.sun.management.ThreadMXBean bean =
            (com.sun.management.ThreadMXBean) java.lang.management.ManagementFactory.getThreadMXBean();
        long thread = Thread.currentThread().getId();
        bean.getThreadAllocatedBytes(thread);
        long before = bean.getThreadAllocatedBytes(thread);
        for (int i = 0; i < CALLS; i++) {
            call(x, promises[i], arguments[i]);
        }
        long bytes = bean.getThreadAllocatedBytes(thread) - before;
        // One object a call would be 16 bytes each at the least; the bean itself makes a little.
        check.due("512 calls make next to nothing (" + bytes + " bytes)", bytes < CALLS * 8 ? 1 : 0, 1);
    }

    /** What an object answers after its 512th call is free, but no call may ever throw. */
    private static void doesNotThrowLater() {
        check.part("long after the 512th call");
        for (int seed = 0; seed < 20; seed++) {
            Random random = new Random(seed);
            DebugBackEnd x = new DebugBackEnd();
            for (int[] n : setUp(random)) {
                call(x, promiseOf(n), n);
            }
            for (int i = 0; i < 20000; i++) {
                int promise = pick(random);
                call(x, promise, arguments(random, promise, 10));
            }
            check.due("steps were made", x.count(6) > 0 ? 1 : 0, 1);
        }
    }
}
