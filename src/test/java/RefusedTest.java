import java.util.List;
import java.util.function.Supplier;
import java.util.function.ToIntFunction;

/**
 * "A call that is refused (NONE, -2 to -9, false) changes nothing but the tape, where it is told": each refusal that a
 * promise names, with all that can be asked ahead of it laid beside all that can be asked behind it.
 */
public final class RefusedTest {
    private static final int NO_RUN = Integer.MIN_VALUE;

    /** Objects that calls are refused by, and the lines of their state, which are asked for once. */
    private final String name;
    private final Supplier<Probe> maker;
    private final List<String> ahead;
    private final String tapeAhead;

    private RefusedTest(String name, Supplier<Probe> maker) {
        this.name = name;
        this.maker = maker;
        ahead = State.of(maker);
        tapeAhead = State.tape(maker);
    }

    private void same(String of, List<String> behind) {
        Probe.due(of + ": lines", behind.size(), ahead.size());
        for (int i = 0; i < Math.min(behind.size(), ahead.size()); i++) {
            Probe.due(of, behind.get(i), ahead.get(i));
        }
    }

    /** The call answers want and changes nothing, the tape neither. */
    private void due(String call, ToIntFunction<GradualCheck> asked, int want) {
        String of = name + ", " + call;
        Probe.due(of, asked.applyAsInt(maker.get().x), want);
        Supplier<Probe> behind = () -> {
            Probe p = maker.get();
            asked.applyAsInt(p.x);
            return p;
        };
        same(of, State.of(behind));
        Probe.due(of, State.tape(behind), tapeAhead);
    }

    /** A text that is refused, # ahead of its fault: it goes from the tape, and nothing else is changed. */
    private void dueOfText(String marked, boolean isType, int fault) {
        String of = name + ", " + marked;
        String text = marked.replace("#", "");
        int want = fault == 9 ? -9002 : fault > 0 ? -1000 * fault - marked.indexOf('#') : fault;
        Supplier<Probe> empty = () -> {
            Probe p = maker.get();
            p.x.program(1);
            return p;
        };
        Probe once = empty.get();
        Probe.due(of, isType ? once.lay(text) : once.say(text), want);
        Probe.due(of + ": the tape", once.x.count(5), 0);
        same(of, State.of(() -> {
            Probe p = empty.get();
            int answer = isType ? p.lay(text) : p.say(text);
            return answer < 0 ? p : new Probe();
        }));
    }

    private static Probe fresh() {
        return new Probe();
    }

    /** Something of all: a program with a loose annotation, types and coercions beside, two feeds on the tape. */
    private static Probe some() {
        Probe p = new Probe();
        p.say("(let f (? > ?) (fun x int (+ x 1)) (as (f (as 2 ?)) int))");
        p.x.loose(1, true);
        p.lay("(int > ?)");
        p.lay("?");
        p.lay("bool");
        p.lay("(? > bool)");
        p.x.coerce(0, 1, 3);
        p.x.coerce(1, 2, 4);
        p.x.then(0, 1);
        p.feed(" (if true 1 2) and what is here");
        return p;
    }

    /** No room left: 12 types, 16 coercions, 300 bytes; a loose annotation that can't be as told. */
    private static Probe full() {
        Probe p = new Probe();
        p.say("(fun f(? > ?)(let x(((((? > ?) > ?) > ?) > ?) > ?)(as 1 ?)(f x)))");
        p.x.loose(1, true);
        p.x.loose(0, true);
        p.lay("(int > ?)");
        p.lay("(? > bool)");
        for (int i = 2; i < 12; i++) {
            p.lay("int");
        }
        p.x.coerce(0, 1, 1);
        for (int i = 1; i < 16; i++) {
            p.x.coerce(2, 2, i);
        }
        p.feed(" " + "7".repeat(299));
        return p;
    }

    private void ofAnyState() {
        for (int n : new int[] {Integer.MIN_VALUE, -1, 0, 241, 301, Integer.MAX_VALUE}) {
            due("program " + n, x -> x.program(n), -1);
        }
        for (int n : new int[] {Integer.MIN_VALUE, -1, 0, 101, 301, Integer.MAX_VALUE}) {
            due("type " + n, x -> x.type(n), -1);
        }
        for (int bad : new int[] {Integer.MIN_VALUE, -1, 60, Integer.MAX_VALUE}) {
            due("count " + bad, x -> x.count(bad), -1);
            due("node " + bad, x -> x.node(bad, 0), -1);
            due("node 0 " + bad, x -> x.node(0, bad), -1);
            due("cast " + bad, x -> x.cast(bad, 0), -1);
            due("cast 0 " + bad, x -> x.cast(0, bad), -1);
            due("text " + bad, x -> x.text(bad, 0, 0), -1);
            due("text 7 " + bad, x -> x.text(7, bad, 0), -1);
            due("pair " + bad, x -> x.pair(bad, 0, 0), -1);
            due("pair 0 " + bad, x -> x.pair(0, bad, 0), -1);
            due("pair 0 0 " + bad, x -> x.pair(0, 0, bad), -1);
            due("meet " + bad, x -> x.meet(bad, 0), -1);
            due("meet 0 " + bad, x -> x.meet(0, bad), -1);
            due("join " + bad, x -> x.join(bad, 0), -1);
            due("join 0 " + bad, x -> x.join(0, bad), -1);
            due("coerce " + bad, x -> x.coerce(bad, 0, 0), -1);
            due("coerce 0 " + bad, x -> x.coerce(0, bad, 0), -1);
            due("then " + bad, x -> x.then(bad, 0), -1);
            due("then 0 " + bad, x -> x.then(0, bad), -1);
            due("coercion " + bad, x -> x.coercion(bad, 0), -1);
            due("coercion 0 " + bad, x -> x.coercion(0, bad), -1);
            due("clear " + bad, x -> x.clear(bad), -1);
            due("run " + bad, x -> x.run(bad, 0), NO_RUN);
            due("run 0 " + bad, x -> x.run(0, bad), NO_RUN);
            due("trace " + bad, x -> x.trace(bad, 0, 0), -1);
            due("trace 0 0 " + bad, x -> x.trace(0, 0, bad), -1);
            due("tries " + bad, x -> x.tries(bad, 0), -1);
            due("tries 0 " + bad, x -> x.tries(0, bad), -1);
            due("loose " + bad, x -> x.loose(bad, true), -1);
            due("not loose " + bad, x -> x.loose(bad, false), -1);
            due("sets " + bad, x -> x.sets(bad), -1);
        }
        for (int k : new int[] {Integer.MIN_VALUE, -1, 1501, Integer.MAX_VALUE}) {
            due("trace 0 " + k, x -> x.trace(0, k, 0), -1);
        }
        due("text, k -2", x -> x.text(7, 0, -2), -1);
        due("text, behind its end", x -> x.text(7, 0, 3000), -4);
    }

    private void faults() {
        dueOfText("(+ 1 #?)", false, 1);
        dueOfText("(as 1#", false, 1);
        dueOfText("(+ 1 #abcdefg)", false, 2);
        dueOfText("(+ 1 #10000)", false, 3);
        dueOfText("(as ".repeat(13) + "1" + " ?)".repeat(12) + " #?)", false, 4);
        dueOfText("(+ 1 (+" + "(+1 1)(+".repeat(14) + "(+#1 1)(+ 1 1)" + ")".repeat(16), false, 4);
        dueOfText("(+ 1 #x)", false, 5);
        dueOfText("(+1".repeat(20) + "#(+ 1 1)" + ")".repeat(20), false, 6);
        dueOfText("(as 1 (((((#(?>?)>?)>?)>?)>?)>?))", false, 7);
        dueOfText("(let x bool true (+ x 1))", false, 9);
        dueOfText("(int > #x)", true, 1);
        dueOfText("int#)", true, 1);
        dueOfText("(int > #", true, 1);
        dueOfText("(((((#(?>?)>?)>?)>?)>?)>?)", true, 7);
    }

    /** Calls that are not refused but tell of what is aside change nothing, too. */
    private void aside() {
        due("run 0", x -> x.run(0, 0) < 0 ? 1 : 0, 0);
        due("run 2", x -> x.run(2, 0) < 0 ? 1 : 0, 0);
        due("trace 1", x -> x.trace(1, 7, 0) < 0 ? 1 : 0, 0);
        due("tries 0", x -> x.tries(0, 0) < 0 ? 1 : 0, 0);
        due("tries 1", x -> x.tries(1, 1) < 0 ? 1 : 0, 0);
        due("sets", x -> x.sets(6) < 0 ? 1 : 0, 0);
        due("text", x -> x.text(8, 0, 0), 40);
    }

    public static void main(String[] args) {
        RefusedTest fresh = new RefusedTest("a new object", RefusedTest::fresh);
        fresh.ofAnyState();
        fresh.due("program 1", x -> x.program(1), -1);
        fresh.due("type 1", x -> x.type(1), -1);
        fresh.faults();

        RefusedTest some = new RefusedTest("some", RefusedTest::some);
        some.ofAnyState();
        some.faults();
        some.aside();
        some.due("program 41", x -> x.program(41), -1);
        some.due("type 41", x -> x.type(41), -1);
        some.due("meet", x -> x.meet(0, 2), -2);
        some.due("coerce", x -> x.coerce(0, 2, 5), -2);
        some.due("coerce, label -1", x -> x.coerce(0, 1, -1), -1);
        some.due("coerce, label 100", x -> x.coerce(0, 1, 100), -1);
        some.due("then", x -> x.then(1, 0), -2);
        some.due("loose, it is so", x -> x.loose(1, true), -2);
        some.due("as told, it is so", x -> x.loose(0, false), -2);
        some.due("text 7, one behind", x -> x.text(7, 0, x.text(7, 0, -1)), -4);

        RefusedTest full = new RefusedTest("full", RefusedTest::full);
        full.ofAnyState();
        full.faults();
        full.aside();
        full.due("feed", x -> x.feed(1, 2, 3, 4, 5), -1);
        full.dueOfText("bool", true, -2);
        full.due("meet", x -> x.meet(0, 1), -3);
        full.due("meet of others", x -> x.meet(0, 2), -2);
        full.due("join", x -> x.join(0, 1), -3);
        full.due("coerce", x -> x.coerce(0, 1, 5), -3);
        full.due("coerce of others", x -> x.coerce(0, 2, 5), -2);
        full.due("then", x -> x.then(2, 3), -3);
        full.due("then, it does not fit", x -> x.then(0, 1), -2);
        full.due("as told, it can't be", x -> x.loose(1, false), -3);
        full.due("loose, it is so", x -> x.loose(0, true), -2);
        Probe.end();
    }
}
