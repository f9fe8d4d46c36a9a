/** Promise 14: coercion. */
public final class CoercionTest {
    private static void row(Probe p, int s, int... want) {
        for (int what = 0; what < want.length; what++) {
            Probe.due(p.text(6, s) + ": what " + what, p.x.coercion(s, what), want[what]);
        }
    }

    private static void due(String from, String to, String text, int... want) {
        Probe p = new Probe();
        p.lay(from);
        p.lay(to);
        Probe.due(from + " to " + to, p.x.coerce(0, 1, 5), 0);
        Probe.due(from + " to " + to, p.text(6, 0), text);
        row(p, 0, want);
    }

    /** Functions are idle where both their parts are, and only there. */
    private static void idleOnes() {
        due("(? > int)", "(int > int)", "[ni! n]", 4, 2, 2, 0, 0, -2, 0);
        due("(int > int)", "(? > int)", "[i?5- n n]", 4, 2, 2, 0, 1, -2, 0);
        due("(int > int)", "(int > ?)", "[n ni!]", 4, 2, 2, 0, 0, -2, 0);
        due("(int > ?)", "(int > int)", "[n i?5+ n]", 4, 2, 2, 0, 1, -2, 0);
        due("((? > int) > ?)", "((int > int) > ?)", "[[i?5+ n n] n]", 6, 3, 2, 0, 1, -2, 0);
        due("(? > (? > int))", "(? > (int > int))", "[n [ni! n]]", 6, 3, 2, 0, 0, -2, 0);
        due("((? > int) > bool)", "((? > int) > bool)", "[[n n] n]", 5, 3, 2, 1, 0, -2, 0);
        due("(bool > (? > int))", "(bool > (? > int))", "[n [n n]]", 5, 3, 2, 1, 0, -2, 0);
    }

    public static void main(String[] args) {
        Probe p = new Probe();
        for (String type : new String[] {"?", "int", "bool", "(int > bool)", "(? > ?)", "((int > int) > int)",
            "(bool > bool)"}) {
            p.lay(type);
        }
        row(p, p.x.coerce(0, 0, 1), 1, 1, 0, 1, 0, -2, 0);
        row(p, p.x.coerce(1, 1, 1), 1, 1, 1, 1, 0, -2, 0);
        row(p, p.x.coerce(2, 2, 1), 1, 1, 1, 1, 0, -2, 0);
        row(p, p.x.coerce(4, 4, 1), 3, 2, 2, 1, 0, -2, 0);
        row(p, p.x.coerce(1, 0, 1), 2, 1, 3, 0, 0, -2, 0);
        row(p, p.x.coerce(0, 2, 1), 2, 1, 4, 0, 1, -2, 0);
        row(p, p.x.coerce(3, 0, 5), 6, 2, 3, 0, 1, -2, 0);
        row(p, p.x.coerce(0, 3, 5), 6, 2, 4, 0, 2, -2, 0);
        row(p, p.x.coerce(0, 5, 6), 10, 3, 4, 0, 3, -2, 0);
        row(p, p.x.coerce(4, 0, 6), 4, 2, 3, 0, 0, -2, 0);
        row(p, p.x.then(4, 5), 1, 1, 5, 0, 1, 1, 1);
        p.x.coerce(0, 6, 9);
        row(p, p.x.then(6, 11), 3, 2, 2, 0, 1, -2, 0);
        row(p, p.x.then(5, p.x.coerce(2, 0, 3)), 3, 1, 4, 0, 1, -2, 0);
        row(p, p.x.then(14, 8), 2, 1, 4, 0, 2, -2, 0);
        idleOnes();
        Probe.due("no such one", p.x.coercion(16, 0), -1);
        Probe.due("below", p.x.coercion(-1, 0), -1);
        Probe.due("what 7", p.x.coercion(0, 7), -1);
        Probe.due("what -1", p.x.coercion(0, -1), -1);
        Probe.due("least", p.x.coercion(-2147483648, 0), -1);
        Probe.end();
    }
}
