import java.util.ArrayList;
import java.util.List;
import java.util.function.Function;
import java.util.function.Supplier;

/**
 * All that can be asked of an object, as lines, so that the state ahead of a call and behind it can be laid beside. Each
 * line asks an object of its own, made anew by the same calls, so that none is used for more than 512 of them and
 * questions that change something do no harm.
 */
final class State {
    private final Supplier<Probe> maker;
    private final List<String> lines = new ArrayList<>();

    private State(Supplier<Probe> maker) {
        this.maker = maker;
    }

    /** Lines of all but the tape. */
    static List<String> of(Supplier<Probe> maker) {
        State s = new State(maker);
        s.counts();
        s.ofProgram();
        s.ofRuns();
        s.ofAnnotations();
        s.ofTypes();
        s.ofCoercions();
        return s.lines;
    }

    /** The tape: how many bytes, and what they tell as a program and as a type. */
    static String tape(Supplier<Probe> maker) {
        int bytes = maker.get().x.count(5);
        Probe term = maker.get();
        int nodes = term.x.program(Math.min(240, bytes));
        int type = maker.get().x.type(Math.min(100, bytes));
        return bytes + " bytes, program " + nodes + " " + term.text(7, 0) + ", type " + type;
    }

    private void line(String name, Function<Probe, String> ask) {
        lines.add(name + ": " + ask.apply(maker.get()));
    }

    private interface Asks {
        int of(Probe p, int what);
    }

    private static String all(Probe p, int most, Asks asks) {
        StringBuilder row = new StringBuilder();
        for (int what = 0; what <= most; what++) {
            row.append(asks.of(p, what)).append(' ');
        }
        return row.toString();
    }

    private int count(int what) {
        return maker.get().x.count(what);
    }

    private void counts() {
        line("counts", p -> all(p, 8, (q, what) -> what == 5 ? 0 : q.x.count(what)));
    }

    private void texts(int what, int n) {
        for (int i = 0; i < n; i++) {
            int at = i;
            line("text " + what + " " + i, p -> p.text(what, at));
        }
    }

    private void ofProgram() {
        for (int i = 0; i < count(0); i++) {
            int at = i;
            line("node " + i, p -> all(p, 7, (q, what) -> q.x.node(at, what)));
        }
        for (int i = 0; i < count(2); i++) {
            int at = i;
            line("cast " + i, p -> all(p, 6, (q, what) -> q.x.cast(at, what)));
        }
        texts(1, count(0));
        texts(2, count(1));
        texts(3, count(2));
        texts(4, count(2));
        texts(5, count(2));
        texts(7, 1);
        texts(8, 1);
    }

    private void ofRuns() {
        for (int m = 0; m < 3; m++) {
            int mode = m;
            line("run " + m, p -> all(p, 8, (q, what) -> q.x.run(mode, what)));
            for (int k : new int[] {0, 1, 2, 3, 5, 8, 13, 21, 100, 1499, 1500}) {
                line("trace " + m + " " + k, p -> all(p, 3, (q, what) -> q.x.trace(mode, k, what)));
            }
        }
    }

    private void ofAnnotations() {
        line("sets", p -> all(p, 6, (q, what) -> q.x.sets(what)));
        for (int i = 0; i < count(1); i++) {
            int at = i;
            line("tries " + i, p -> all(p, 1, (q, what) -> q.x.tries(at, what)));
            line("loose " + i, p -> p.x.loose(at, true) + " " + p.x.loose(at, false) + " " + p.x.count(6));
        }
    }

    private void ofTypes() {
        int n = count(3);
        texts(0, n);
        for (int i = 0; i < n; i++) {
            for (int k = 0; k < n; k++) {
                int a = i;
                int b = k;
                line("pair " + a + " " + b, p -> all(p, 4, (q, what) -> q.x.pair(a, b, what)));
                line("meet, join " + a + " " + b, p -> p.x.meet(a, b) + " " + p.x.join(a, b) + " " + p.x.count(3));
                line("coerce " + a + " " + b, p -> p.x.coerce(a, b, 7) + " " + p.x.count(4));
            }
        }
        line("clear 1", p -> p.x.clear(1) + " " + p.x.count(3) + " " + p.x.count(4));
    }

    private void ofCoercions() {
        int n = count(4);
        texts(6, n);
        for (int i = 0; i < n; i++) {
            int s = i;
            line("coercion " + s, p -> all(p, 6, (q, what) -> q.x.coercion(s, what)));
            line("then " + s, p -> all(p, n - 1, (q, t) -> q.x.then(s, t)) + p.x.count(4));
        }
        line("clear 0", p -> p.x.clear(0) + " " + p.x.count(3) + " " + p.x.count(4));
    }
}
