import java.util.function.IntUnaryOperator;

/** Each argument that a promise bounds: the last values that there are on both sides, and the first that there are not. */
public final class RangesTest {
    private static final int NONE = -1;

    /** The call answers refused just outside low to high and far from them, something else at both ends. */
    private static void due(String call, int low, int high, int refused, IntUnaryOperator asked) {
        for (int bad : new int[] {low - 1, high + 1, Integer.MIN_VALUE, Integer.MAX_VALUE, high + 256, low - 256}) {
            Probe.due(call + " with " + bad, asked.applyAsInt(bad), refused);
        }
        for (int good : new int[] {low, high}) {
            Probe.due(call + " with " + good + " is there", asked.applyAsInt(good) != refused);
        }
    }

    private static void due(String call, int low, int high, IntUnaryOperator asked) {
        due(call, low, high, NONE, asked);
    }

    /** None at all: an empty range. */
    private static void none(String call, IntUnaryOperator asked) {
        for (int i : new int[] {Integer.MIN_VALUE, -1, 0, 1, Integer.MAX_VALUE}) {
            Probe.due(call + " with " + i, asked.applyAsInt(i), NONE);
        }
    }

    /** Sixty nodes, twelve annotations, and as many casts as there come to be. */
    private static Probe large() {
        Probe p = new Probe();
        String calls = "((((a a)(a a))((a a)(a a)))(((a a)(a a))((a a)(a a))))";
        String term = "(let a?1".repeat(12) + "(+(+ a a)" + calls + ")" + ")".repeat(12);
        Probe.due("nodes", p.say(term), 24 + 4 + 31);
        return p;
    }

    private static void ofProgram() {
        Probe p = large();
        due("node", 0, 58, i -> p.x.node(i, 0));
        due("node 0", 0, 7, what -> p.x.node(0, what));
        due("node 58", 0, 7, what -> p.x.node(58, what));
        int casts = p.x.count(2);
        Probe.due("casts", casts, 12 + 2 + 15 + 1);
        due("cast", 0, casts - 1, c -> p.x.cast(c, 0));
        due("cast 0", 0, 6, what -> p.x.cast(0, what));
        due("text 1", 0, 58, i -> p.x.text(1, i, -1));
        due("text 2", 0, 11, i -> p.x.text(2, i, -1));
        for (int what = 3; what < 6; what++) {
            int w = what;
            due("text " + what, 0, casts - 1, c -> p.x.text(w, c, -1));
        }
        due("text 7", 0, 58, i -> p.x.text(7, i, -1));
        due("text 8", 0, 58, i -> p.x.text(8, i, -1));
        due("tries", 0, 11, i -> p.x.tries(i, 0));
        due("tries 11", 0, 1, what -> p.x.tries(11, what));
        due("loose", 0, 11, i -> p.x.loose(i, true));
        Probe.due("bits of the first and the last", p.x.count(6), 1 + (1 << 11));
        due("as told", 0, 11, i -> p.x.loose(i, false));
        due("sets", 0, 6, p.x::sets);
        due("count", 0, 8, p.x::count);
    }

    private static void ofRuns() {
        Probe p = large();
        for (int m = 0; m < 3; m++) {
            int mode = m;
            due("run " + m, 0, 8, Integer.MIN_VALUE, what -> p.x.run(mode, what));
            due("trace " + m + " 0", 0, 3, what -> p.x.trace(mode, 0, what));
            due("trace " + m, 0, 1500, k -> p.x.trace(mode, k, 0));
        }
        for (int w = 0; w < 9; w++) {
            int what = w;
            due("run", 0, 2, Integer.MIN_VALUE, mode -> p.x.run(mode, what));
        }
        for (int w = 0; w < 4; w++) {
            int what = w;
            due("trace", 0, 2, mode -> p.x.trace(mode, 3, what));
        }
    }

    private static Probe types(int n) {
        Probe p = new Probe();
        for (int i = 0; i < n; i++) {
            p.lay("?");
        }
        return p;
    }

    private static void ofTypes() {
        for (int n = 1; n <= 12; n++) {
            Probe p = types(n);
            int last = n - 1;
            due("text 0 of " + n, 0, last, i -> p.x.text(0, i, -1));
            due("pair of " + n, 0, last, a -> p.x.pair(a, 0, 0));
            due("pair 0 of " + n, 0, last, b -> p.x.pair(0, b, 0));
            due("meet of " + n, 0, last, a -> p.x.meet(a, 0));
            due("meet 0 of " + n, 0, last, b -> p.x.meet(0, b));
            due("join of " + n, 0, last, a -> p.x.join(a, 0));
            due("join 0 of " + n, 0, last, b -> p.x.join(0, b));
            due("coerce of " + n, 0, last, a -> p.x.coerce(a, 0, 0));
            due("coerce 0 of " + n, 0, last, b -> p.x.coerce(0, b, 0));
            due("coerce 0 0 of " + n, 0, 99, label -> p.x.coerce(0, 0, label));
            due("pair 0 0 of " + n, 0, 4, what -> p.x.pair(0, 0, what));
        }
    }

    private static void ofCoercions() {
        for (int n = 1; n <= 16; n++) {
            Probe p = types(1);
            for (int i = 0; i < n; i++) {
                p.x.coerce(0, 0, n);
            }
            int last = n - 1;
            due("text 6 of " + n, 0, last, i -> p.x.text(6, i, -1));
            due("coercion of " + n, 0, last, s -> p.x.coercion(s, 0));
            due("coercion of " + n + ", the last one", 0, 6, what -> p.x.coercion(last, what));
            if (n == 16) {
                due("then", 0, last, s -> p.x.then(s, 0));
                due("then 0", 0, last, t -> p.x.then(0, t));
                due("clear", 0, 1, p.x::clear);
            }
        }
    }

    /** The largest of all texts that is told to its last byte, and not a byte behind it. */
    private static void bytesOfTexts() {
        Probe p = large();
        for (int what : new int[] {1, 2, 3, 4, 5, 7, 8}) {
            int w = what;
            int length = p.x.text(what, 0, -1);
            due("text " + what + " behind its end", -1, length - 1, -4, k -> k < -1 ? -4 : p.x.text(w, 0, k));
            Probe.due("k -2", p.x.text(w, 0, -2), -1);
            Probe.due("least k", p.x.text(w, 0, Integer.MIN_VALUE), -1);
        }
    }

    /** Where there is no such one, no what has an answer. */
    private static void noSuchOneByAnyWhat() {
        Probe p = large();
        p.lay("?");
        p.x.coerce(0, 0, 0);
        int casts = p.x.count(2);
        for (int what = -1; what < 10; what++) {
            for (int off : new int[] {-1, -2, Integer.MIN_VALUE, Integer.MAX_VALUE}) {
                noneBy(p, off, what);
            }
            Probe.due("node 59 " + what, p.x.node(59, what), NONE);
            Probe.due("cast " + casts + " " + what, p.x.cast(casts, what), NONE);
            Probe.due("tries 12 " + what, p.x.tries(12, what), NONE);
            Probe.due("pair 1 0 " + what, p.x.pair(1, 0, what), NONE);
            Probe.due("pair 0 1 " + what, p.x.pair(0, 1, what), NONE);
            Probe.due("coercion 1 " + what, p.x.coercion(1, what), NONE);
        }
    }

    private static void noneBy(Probe p, int off, int what) {
        Probe.due("node " + off + " " + what, p.x.node(off, what), NONE);
        Probe.due("cast " + off + " " + what, p.x.cast(off, what), NONE);
        Probe.due("tries " + off + " " + what, p.x.tries(off, what), NONE);
        Probe.due("pair " + off + " 0 " + what, p.x.pair(off, 0, what), NONE);
        Probe.due("pair 0 " + off + " " + what, p.x.pair(0, off, what), NONE);
        Probe.due("coercion " + off + " " + what, p.x.coercion(off, what), NONE);
        Probe.due("text " + what + " " + off, p.x.text(what, off, 0), NONE);
        Probe.due("trace " + off + " 0 " + what, p.x.trace(off, 0, what), NONE);
        Probe.due("trace 0 " + off + " " + what, p.x.trace(0, off, what), NONE);
        Probe.due("run " + off + " " + what, p.x.run(off, what), Integer.MIN_VALUE);
    }

    private static void emptyOnes() {
        Probe p = new Probe();
        due("node of one", 0, 0, i -> p.x.node(i, 0));
        due("text 1 of one", 0, 0, i -> p.x.text(1, i, -1));
        due("text 7 of one", 0, 0, i -> p.x.text(7, i, -1));
        none("cast", c -> p.x.cast(c, 0));
        for (int what : new int[] {0, 2, 3, 4, 5, 6}) {
            none("text " + what, i -> p.x.text(what, i, -1));
        }
        none("pair", a -> p.x.pair(a, a, 0));
        none("meet", a -> p.x.meet(a, a));
        none("join", a -> p.x.join(a, a));
        none("coerce", a -> p.x.coerce(a, a, 0));
        none("then", s -> p.x.then(s, s));
        none("coercion", s -> p.x.coercion(s, 0));
        none("tries", i -> p.x.tries(i, 0));
        none("loose", i -> p.x.loose(i, true));
        none("as told", i -> p.x.loose(i, false));
        none("program", p.x::program);
        none("type", p.x::type);
    }

    public static void main(String[] args) {
        ofProgram();
        ofRuns();
        ofTypes();
        ofCoercions();
        bytesOfTexts();
        noSuchOneByAnyWhat();
        emptyOnes();
        Probe.end();
    }
}
