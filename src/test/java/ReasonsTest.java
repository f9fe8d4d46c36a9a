/** "Of several reasons NONE comes first, then -2, -3, ..": calls that could be refused for more than one. */
public final class ReasonsTest {
    private static void texts() {
        Probe p = new Probe();
        for (int i = 0; i < 12; i++) {
            p.lay("int");
        }
        p.feed("(int > x)");
        Probe.due("type: NONE ahead of a fault and of -2", p.x.type(101), -1);
        Probe.due("type: NONE, not so many", p.x.type(21), -1);
        Probe.due("type: a fault ahead of -2", p.x.type(9), -1007);
        Probe.due("type: another fault ahead of -2", p.lay("((((((? > ?) > ?) > ?) > ?) > ?) > ?)"), -7005);
        Probe.due("type: -2", p.lay("(int > int)"), -2);
        p.feed("(+ true (");
        Probe.due("program: NONE ahead of a fault", p.x.program(0), -1);
        Probe.due("program: NONE, not so many", p.x.program(21), -1);
        Probe.due("program: a fault ahead of a node that can't be", p.x.program(9), -1009);
        Probe.due("program: a node that can't be", p.say("(+ true 1)"), -9000);
        Probe.due("program: the first one that can't be", p.say("(+ (1 2) (3 4))"), -9001);
        Probe.due("text: NONE ahead of -4", p.x.text(9, 0, 3000), -1);
        Probe.due("text: NONE ahead of -4", p.x.text(7, 1, 3000), -1);
        Probe.due("text: NONE ahead of -4", p.x.text(5, 0, 3000), -1);
        Probe.due("text: -4", p.x.text(7, 0, 3000), -4);
    }

    private static void types() {
        Probe p = new Probe();
        p.lay("(int > ?)");
        p.lay("(? > bool)");
        for (int i = 2; i < 12; i++) {
            p.lay("bool");
        }
        for (int i = 0; i < 16; i++) {
            p.x.coerce(0, 1, i);
        }
        Probe.due("meet: NONE ahead of -3", p.x.meet(0, 12), -1);
        Probe.due("meet: NONE ahead of -3", p.x.meet(-1, 1), -1);
        Probe.due("meet: -2 ahead of -3", p.x.meet(0, 2), -2);
        Probe.due("meet: -3", p.x.meet(0, 1), -3);
        Probe.due("meet: a like one, no -3", p.x.meet(1, 1), 1);
        Probe.due("join: NONE ahead of -3", p.x.join(12, 0), -1);
        Probe.due("join: -3, never -2", p.x.join(0, 2), -3);
        Probe.due("join: a like one, no -3", p.x.join(2, 11), 2);
        Probe.due("coerce: NONE ahead of -2", p.x.coerce(0, 2, 100), -1);
        Probe.due("coerce: NONE ahead of -3", p.x.coerce(0, 1, -1), -1);
        Probe.due("coerce: NONE ahead of -3", p.x.coerce(0, 12, 0), -1);
        Probe.due("coerce: -2 ahead of -3", p.x.coerce(0, 2, 0), -2);
        Probe.due("coerce: -3", p.x.coerce(0, 1, 0), -3);
        Probe.due("then: NONE ahead of -2", p.x.then(0, 16), -1);
        Probe.due("then: NONE ahead of -2", p.x.then(-1, 0), -1);
        Probe.due("then: -2 ahead of -3", p.x.then(0, 1), -2);
        p.x.clear(0);
        for (int i = 0; i < 16; i++) {
            p.x.coerce(2, 2, i);
        }
        Probe.due("then: -3", p.x.then(0, 1), -3);
        Probe.due("then: NONE ahead of -3", p.x.then(16, 0), -1);
        Probe.due("pair: NONE for each", p.x.pair(12, 0, 5), -1);
        Probe.due("coercion: NONE for each", p.x.coercion(16, 7), -1);
    }

    /** As told the second one can't be while the first one is loose. */
    private static void annotations() {
        Probe p = new Probe();
        p.say("(fun f(? > ?)(let x(((((? > ?) > ?) > ?) > ?) > ?)(as 1 ?)(f x)))");
        Probe.due("loose: -3", p.x.loose(0, true), -3);
        Probe.due("loose: -2 ahead of -3", p.x.loose(0, false), -2);
        Probe.due("loose: NONE ahead of both", p.x.loose(3, true), -1);
        p.x.loose(1, true);
        p.x.loose(0, true);
        Probe.due("as told: -3", p.x.loose(1, false), -3);
        Probe.due("as told: -2 ahead of -3", p.x.loose(1, true), -2);
        Probe.due("as told: NONE ahead of both", p.x.loose(-1, false), -1);
        Probe.due("run: the same for each", p.x.run(3, 9), Integer.MIN_VALUE);
        Probe.due("trace: NONE for each", p.x.trace(3, 1501, 4), -1);
        Probe.due("tries: NONE for each", p.x.tries(3, 2), -1);
    }

    public static void main(String[] args) {
        texts();
        types();
        annotations();
        Probe.end();
    }
}
