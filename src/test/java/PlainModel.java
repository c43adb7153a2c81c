import java.util.ArrayList;
import java.util.HashSet;
import java.util.List;
import java.util.Set;

/**
 * The document written a second time, with the Java library and no eye to speed or room, so that long random runs have
 * answers to be compared with. A value is a Long (an int), a Thing (a reference) or NOTHING (the reference to none).
 */
final class PlainModel {
    private static final int R = -1000000000;
    private static final long NONE = 20000000002L;
    private static final Object NOTHING = "the reference to none";

    private static final class Thing {
        final Object[] fields = {0L, 0L};
        int id = -1;
        boolean pinned;
        boolean gone;
    }

    private static final class Fr {
        final int method;
        final Object argument;
        final Object[] locals = {0L, 0L, 0L, 0L};
        List<Object> stack = new ArrayList<>();
        int counter;
        int done;

        Fr(int method, Object argument) {
            this.method = method;
            this.argument = argument;
            locals[0] = argument;
        }
    }

    private static final class Th {
        final List<Fr> frames = new ArrayList<>();
        int suspended;
        Object result;
        Fr stoppedIn;

        Fr top() {
            return frames.get(frames.size() - 1);
        }
    }

    private static final class Req {
        int kind, a, b, policy, skip, times, f, l;
        boolean on = true;
    }

    private final List<List<int[]>> methods = new ArrayList<>();
    private final int[] handlers = {-1, -1, -1, -1, -1, -1};
    private final Th[] threads = {new Th(), new Th(), new Th()};
    private final List<Req> requests = new ArrayList<>();
    private final List<int[]> events = new ArrayList<>();
    private final List<Thing> given = new ArrayList<>();
    private List<Thing> things = new ArrayList<>();
    private int lost, steps, turn;

    PlainModel() {
        for (int i = 0; i < 6; i++) {
            methods.add(new ArrayList<>());
        }
    }

    /** The call with this number in the document's list, from 2 on; a boolean argument is 0 or 1. */
    long call(int promise, int... n) {
        switch (promise) {
            case 2: return instr(n[0], n[1], n[2]);
            case 3: return handler(n[0], n[1]);
            case 4: return start(n[0], n[1], n[2]);
            case 5: return run(n[0]);
            case 6: return request(n);
            case 7: return clear(n[0]);
            case 8: return suspend(n[0], 1);
            case 9: return suspend(n[0], -1);
            case 10: return in(n[0], 0, 4) && !events.isEmpty() ? events.get(0)[n[0]] : R;
            case 11: return next();
            case 12: return frame(n[0], n[1], n[2]);
            case 13: return local(n[0], n[1], n[2]);
            case 14: return set(n[0], n[1], n[2], (long) n[3]);
            case 15: return set(n[0], n[1], n[2], n[3] == -1 ? NOTHING : thing(n[3]));
            case 16: return field(n[0], n[1]);
            case 17: return pin(n[0], n[1] == 1);
            case 18: return collect();
            case 19: return pop(n[0], n[1]);
            case 20: return force(n[0], n[1]);
            case 21: return raise(n[0], n[1]);
            case 22: return in(n[0], 0, 2) && threads[n[0]].result != null ? told(threads[n[0]].result) : NONE;
            case 23: return thread(n[0], n[1]);
            default: return count(n[0]);
        }
    }

    private static boolean in(int n, int from, int to) {
        return from <= n && n <= to;
    }

    private long told(Object value) {
        if (value instanceof Long) {
            return (Long) value;
        }
        if (value == NOTHING) {
            return 9999999999L;
        }
        Thing thing = (Thing) value;
        if (thing.id < 0 && given.size() < 64) {
            thing.id = given.size();
            given.add(thing);
        }
        return thing.id < 0 ? 20000000000L : 10000000000L + thing.id;
    }

    private Thing thing(int id) {
        return in(id, 0, given.size() - 1) && !given.get(id).gone ? given.get(id) : null;
    }

    private boolean still(int t) {
        return in(t, 0, 2) && !threads[t].frames.isEmpty() && threads[t].suspended > 0;
    }

    private Fr fr(int t, int f) {
        return still(t) && in(f, 0, threads[t].frames.size() - 1)
            ? threads[t].frames.get(threads[t].frames.size() - 1 - f) : null;
    }

    private int instr(int m, int op, int x) {
        if (!in(m, 0, 5) || !in(op, 0, 12) || methods.get(m).size() == 12) {
            return R;
        }
        if (op == 0 && !in(x, -1000, 1000) || (op == 1 || op == 2) && !in(x, 0, 3)
                || (op == 6 || op == 7) && !in(x, 0, 1) || op == 8 && !in(x, 0, 5)
                || (op == 10 || op == 11) && !in(x, 0, 11)) {
            return R;
        }
        methods.get(m).add(new int[] {op, x});
        return methods.get(m).size();
    }

    private int handler(int m, int at) {
        if (!in(m, 0, 5) || !in(at, -1, 11)) {
            return R;
        }
        int before = handlers[m];
        handlers[m] = at;
        return before;
    }

    private int start(int t, int m, int value) {
        if (!in(t, 0, 2) || !in(m, 0, 5) || !threads[t].frames.isEmpty()) {
            return R;
        }
        int answer = threads[t].result == null ? 0 : 1;
        threads[t].result = null;
        threads[t].frames.add(new Fr(m, (long) value));
        return answer;
    }

    private int run(int n) {
        if (!in(n, 1, 50)) {
            return R;
        }
        int made = 0;
        while (made < n) {
            int t = turn;
            for (int i = 0; i < 3 && (threads[t].frames.isEmpty() || threads[t].suspended > 0); i++) {
                t = (t + 1) % 3;
            }
            if (threads[t].frames.isEmpty() || threads[t].suspended > 0) {
                break;
            }
            made++;
            steps++;
            turn = (t + 1) % 3;
            if (step(t)) {
                break;
            }
        }
        return made;
    }

    private boolean step(int t) {
        Th th = threads[t];
        Fr top = th.top();
        int method = top.method;
        int counter = top.counter;
        boolean look = th.stoppedIn != top;
        th.stoppedIn = null;
        boolean suspends = false;
        for (Req r : requests) {
            if (look && r.on && fitsPlace(r, t, top) && fire(r, t, method, counter)) {
                suspends = true;
            }
        }
        if (suspends) {
            th.stoppedIn = top;
            return true;
        }
        String shown = execute(th, top);
        for (Req r : requests) {
            boolean fits = r.kind == 2 && shown.equals("put " + r.b)
                || r.kind == 3 && r.a != 2 && shown.equals("caught") || r.kind == 3 && r.a != 1 && shown.equals("fatal");
            if (r.on && fits && fire(r, t, method, counter)) {
                suspends = true;
            }
        }
        return suspends;
    }

    private boolean fitsPlace(Req r, int t, Fr top) {
        int now = threads[t].frames.size();
        boolean otherLine = top.counter / 3 != r.l;
        switch (r.kind) {
            case 0: return top.method == r.a && top.counter == r.b;
            case 1: return t == r.a && (now < r.f || r.b == 0 && now > r.f || r.b < 2 && now == r.f && otherLine);
            case 4: return top.method == r.a && top.counter == 0 && top.done == 0;
            default: return false;
        }
    }

    private boolean fire(Req r, int t, int method, int counter) {
        r.times++;
        if (r.times <= r.skip) {
            return false;
        }
        r.on = r.kind != 1;
        if (events.size() < 20) {
            events.add(new int[] {requests.indexOf(r), r.kind, t, method, counter});
        } else {
            lost++;
        }
        if (r.policy == 1) {
            threads[t].suspended++;
        } else if (r.policy == 2) {
            suspend(3, 1);
        }
        return r.policy > 0;
    }

    private String execute(Th th, Fr fr) {
        List<int[]> code = methods.get(fr.method);
        if (fr.counter >= code.size()) {
            return fling(th, 4L);
        }
        int op = code.get(fr.counter)[0];
        int x = code.get(fr.counter)[1];
        long fault = fault(th, fr, op);
        if (fault > 0) {
            return fling(th, fault);
        }
        fr.done++;
        fr.counter++;
        List<Object> s = fr.stack;
        Object v = needs(op) > 0 ? s.remove(s.size() - 1) : null;
        Object u = needs(op) > 1 ? s.remove(s.size() - 1) : null;
        switch (op) {
            case 0: s.add((long) x); return "";
            case 1: s.add(fr.locals[x]); return "";
            case 2: fr.locals[x] = v; return "";
            case 3: s.add((long) (int) ((Long) u + (Long) v)); return "";
            case 4: s.add((Long) u < (Long) v ? 1L : 0L); return "";
            case 5: things.add(new Thing()); s.add(things.get(things.size() - 1)); return "";
            case 6: s.add(((Thing) v).fields[x]); return "";
            case 7: ((Thing) u).fields[x] = v; return "put " + x;
            case 8: th.frames.add(new Fr(x, v)); return "";
            case 9: giveBack(th, v); return "";
            case 10: fr.counter = x; return "";
            case 11: fr.counter = v.equals(0L) ? x : fr.counter; return "";
            default: return fling(th, v);
        }
    }

    private static int needs(int op) {
        return op == 3 || op == 4 || op == 7 ? 2 : op == 0 || op == 1 || op == 5 || op == 10 ? 0 : 1;
    }

    private long fault(Th th, Fr fr, int op) {
        int size = fr.stack.size();
        if (size < needs(op)) {
            return 1;
        }
        Object v = size > 0 ? fr.stack.get(size - 1) : null;
        Object u = size > 1 ? fr.stack.get(size - 2) : null;
        if ((op == 3 || op == 4) && !(v instanceof Long && u instanceof Long) || op == 6 && !(v instanceof Thing)
                || op == 7 && !(u instanceof Thing)) {
            return 2;
        }
        boolean pushes = op == 0 || op == 1 || op == 5;
        return pushes && size == 8 || op == 8 && th.frames.size() == 6 || op == 5 && things.size() == 40 ? 3 : 0;
    }

    private void giveBack(Th th, Object v) {
        th.frames.remove(th.frames.size() - 1);
        if (th.frames.isEmpty()) {
            th.result = v;
        } else {
            th.top().stack.add(v);
        }
    }

    private String fling(Th th, Object v) {
        while (!th.frames.isEmpty() && handlers[th.top().method] < 0) {
            th.frames.remove(th.frames.size() - 1);
        }
        if (th.frames.isEmpty()) {
            th.result = v;
            return "fatal";
        }
        th.top().stack = new ArrayList<>(List.of(v));
        th.top().counter = handlers[th.top().method];
        return "caught";
    }

    private int request(int[] n) {
        if (!in(n[0], 0, 4) || !in(n[3], 0, 2) || !in(n[4], 0, 9) || requests.size() == 16) {
            return R;
        }
        boolean right = n[0] == 0 && in(n[1], 0, 5) && in(n[2], 0, 11)
            || n[0] == 1 && in(n[1], 0, 2) && in(n[2], 0, 2) && !threads[n[1]].frames.isEmpty()
            || n[0] == 2 && in(n[2], 0, 1) || n[0] == 3 && in(n[1], 1, 3) || n[0] == 4 && in(n[1], 0, 5);
        if (!right) {
            return R;
        }
        Req r = new Req();
        r.kind = n[0];
        r.a = n[1];
        r.b = n[2];
        r.policy = n[3];
        r.skip = n[4];
        if (r.kind == 1) {
            r.f = threads[r.a].frames.size();
            r.l = threads[r.a].top().counter / 3;
        }
        requests.add(r);
        return requests.size() - 1;
    }

    private int clear(int n) {
        if (!in(n, 0, requests.size() - 1)) {
            return R;
        }
        int was = requests.get(n).on ? 1 : 0;
        requests.get(n).on = false;
        return was;
    }

    private int suspend(int t, int by) {
        if (!in(t, 0, 3)) {
            return R;
        }
        for (int i = t % 3; i <= Math.min(t, 2); i++) {
            threads[i].suspended = Math.max(0, threads[i].suspended + by);
        }
        return threads[t % 3].suspended;
    }

    private int next() {
        if (events.isEmpty()) {
            return R;
        }
        events.remove(0);
        return events.size();
    }

    private int frame(int t, int f, int what) {
        Fr fr = fr(t, f);
        if (fr == null || !in(what, 0, 3)) {
            return R;
        }
        return new int[] {fr.method, fr.counter, fr.counter / 3, fr.stack.size()}[what];
    }

    private long local(int t, int f, int k) {
        Fr fr = fr(t, f);
        if (fr == null || k < 0 || k >= 4 + fr.stack.size()) {
            return NONE;
        }
        return told(k < 4 ? fr.locals[k] : fr.stack.get(k - 4));
    }

    private int set(int t, int f, int k, Object value) {
        Fr fr = fr(t, f);
        if (fr == null || !in(k, 0, 3) || value == null) {
            return R;
        }
        fr.locals[k] = value;
        return 1;
    }

    private long field(int id, int field) {
        if (!in(id, 0, given.size() - 1) || !in(field, 0, 1)) {
            return NONE;
        }
        return given.get(id).gone ? 20000000001L : told(given.get(id).fields[field]);
    }

    private int pin(int id, boolean on) {
        Thing thing = thing(id);
        if (thing == null) {
            return R;
        }
        int answer = thing.pinned != on ? 1 : 0;
        thing.pinned = on;
        return answer;
    }

    private int collect() {
        Set<Object> held = new HashSet<>();
        for (Th th : threads) {
            hold(held, th.result);
            for (Fr fr : th.frames) {
                hold(held, fr.argument);
                hold(held, fr.locals);
                hold(held, fr.stack.toArray());
            }
        }
        List<Thing> left = new ArrayList<>();
        for (Thing thing : things) {
            if (thing.pinned) {
                hold(held, thing);
            }
        }
        for (Thing thing : things) {
            thing.gone = !held.contains(thing);
            if (!thing.gone) {
                left.add(thing);
            }
        }
        int answer = things.size() - left.size();
        things = left;
        return answer;
    }

    private void hold(Set<Object> held, Object... values) {
        for (Object value : values == null ? new Object[0] : values) {
            if (value instanceof Thing && held.add(value)) {
                hold(held, ((Thing) value).fields);
            }
        }
    }

    private int pop(int t, int f) {
        if (fr(t, f) == null || fr(t, f + 1) == null) {
            return R;
        }
        Th th = threads[t];
        Object argument = null;
        for (int i = 0; i <= f; i++) {
            argument = th.frames.remove(th.frames.size() - 1).argument;
        }
        th.top().counter--;
        th.top().stack.add(argument);
        th.stoppedIn = null;
        return th.frames.size();
    }

    private int force(int t, int value) {
        if (!still(t)) {
            return R;
        }
        threads[t].stoppedIn = null;
        giveBack(threads[t], (long) value);
        return threads[t].frames.size();
    }

    private int raise(int t, int value) {
        if (!still(t)) {
            return R;
        }
        threads[t].stoppedIn = null;
        fling(threads[t], (long) value);
        return threads[t].frames.size();
    }

    private int thread(int t, int what) {
        if (!in(t, 0, 2) || !in(what, 0, 2)) {
            return R;
        }
        Th th = threads[t];
        return new int[] {th.frames.size(), th.suspended, !th.frames.isEmpty() ? 1 : th.result != null ? 2 : 0}[what];
    }

    private int count(int what) {
        if (!in(what, 0, 7)) {
            return R;
        }
        int on = 0;
        for (Req r : requests) {
            on += r.on ? 1 : 0;
        }
        int pinned = 0;
        for (Thing thing : things) {
            pinned += thing.pinned ? 1 : 0;
        }
        return new int[] {things.size(), given.size(), events.size(), lost, requests.size(), on, steps, pinned}[what];
    }
}
