import java.util.ArrayList;
import java.util.List;

/**
 * All that can be seen of an object and of what it does next, as lines that can be compared with those of another one.
 * Looking gives IDs, takes events and makes steps, so the object is used up by it.
 */
final class State {
    private final Counted x;
    private final List<String> lines = new ArrayList<>();

    private State(Counted x) {
        this.x = x;
    }

    static List<String> of(Counted x) {
        State state = new State(x);
        state.look("at first");
        state.takeEvents("at first");
        state.goOn();
        state.look("behind a run");
        state.takeEvents("behind a run");
        state.undo();
        return state.lines;
    }

    private void line(String text, long answer) {
        lines.add(text + " " + answer);
    }

    private void look(String when) {
        for (int what = 0; what < 8; what++) {
            line(when + ", count " + what, x.count(what));
        }
        for (int t = 0; t < 3; t++) {
            for (int what = 0; what < 3; what++) {
                line(when + ", thread " + t + " " + what, x.thread(t, what));
            }
            line(when + ", result " + t, x.result(t));
        }
        x.suspend(3);
        for (int t = 0; t < 3; t++) {
            int frames = x.thread(t, 0);
            for (int f = 0; f < frames; f++) {
                lookAtFrame(when + ", thread " + t + ", frame " + f, t, f);
            }
        }
        x.resume(3);
        int given = x.count(1);
        // The last ones only: a test with 64 IDs would go beyond its 512 calls.
        for (int id = Math.max(0, given - 4); id < given; id++) {
            line(when + ", field 0 of " + id, x.field(id, 0));
            line(when + ", field 1 of " + id, x.field(id, 1));
        }
    }

    private void lookAtFrame(String which, int t, int f) {
        for (int what = 0; what < 4; what++) {
            line(which + ", " + what, x.frame(t, f, what));
        }
        int values = x.frame(t, f, 3);
        for (int k = 0; k < 4 + values; k++) {
            line(which + ", value " + k, x.local(t, f, k));
        }
    }

    private void takeEvents(String when) {
        int events = x.count(2);
        for (int i = 0; i < events; i++) {
            for (int what = 0; what < 5; what++) {
                line(when + ", event " + i + ", " + what, x.event(what));
            }
            line(when + ", next", x.next());
        }
    }

    /** Steps show whose turn it is, who has stopped, and what the requests still skip. */
    private void goOn() {
        for (int i = 0; i < 4; i++) {
            line("resume", x.resume(3));
            line("run", x.run(3));
        }
    }

    private void undo() {
        x.suspend(3);
        for (int t = 0; t < 3; t++) {
            for (int i = x.thread(t, 0); i > 1; i--) {
                line("pop", x.pop(t, 0));
                line("argument", x.local(t, 0, 3 + x.frame(t, 0, 3)));
            }
        }
        for (int id = 0; id < Math.min(8, x.count(1)); id++) {
            line("pin " + id, x.pin(id, false));
        }
        line("collect", x.collect());
        int requests = x.count(4);
        for (int i = 0; i < requests; i++) {
            line("clear " + i, x.clear(i));
        }
        for (int method = 0; method < 6; method++) {
            line("handler " + method, x.handler(method, -1));
            line("instr " + method, x.instr(method, 5, 0));
        }
    }
}
