/** Promise 13: then. */
public final class ThenTest {
    /** Casts from each type to the next, labels 1, 2, .., put one behind another from the left. */
    private static void due(String want, String... types) {
        Probe p = new Probe();
        for (String type : types) {
            p.lay(type);
        }
        int s = p.x.coerce(0, 1, 1);
        for (int i = 2; i < types.length; i++) {
            s = p.x.then(s, p.x.coerce(i - 1, i, i));
        }
        String of = String.join(" to ", types);
        Probe.due(of, s < 0 ? "answer " + s : p.text(6, s), want);

        Probe right = new Probe();
        for (String type : types) {
            right.lay(type);
        }
        int last = types.length - 1;
        int t = right.x.coerce(last - 1, last, last);
        for (int i = last - 2; i >= 0; i--) {
            t = right.x.then(right.x.coerce(i, i + 1, i + 1), t);
        }
        Probe.due(of + " from the right", t < 0 ? "answer " + t : right.text(6, t), want);
    }

    private static void joined() {
        due("n", "?", "?", "?");
        due("n", "int", "int", "int");
        due("n", "int", "?", "int");
        due("ni!", "int", "?", "?");
        due("ni!", "int", "int", "?");
        due("ni!", "int", "?", "int", "?");
        due("i?1+ n", "?", "int", "int");
        due("i?1+ ni!", "?", "int", "?");
        due("i?1+ n", "?", "int", "?", "int");
        due("Xi2+b", "int", "?", "bool");
        due("Xi2+f", "int", "?", "(? > ?)");
        due("Xf2+b", "(int > int)", "?", "bool");
        due("Xi2+b", "int", "?", "bool", "?");
        due("Xi2+b", "int", "?", "bool", "?", "int");
        due("i?1+ Xi3+b", "?", "int", "?", "bool");
        due("i?1+ Xi3+b", "?", "int", "?", "bool", "?");
        due("[n n]", "(int > bool)", "?", "(int > bool)");
        due("[n n]", "(? > ?)", "?", "(? > ?)");
        due("[n n]f!", "(? > ?)", "?", "(? > ?)", "?");
        due("[i?1- n ni!]f!", "(int > int)", "?", "?");
        due("[i?1- n ni!]", "(int > int)", "?", "(? > ?)");
        due("[Xb1-i n]", "(int > int)", "?", "(bool > int)");
        due("[n Xi2+b]", "(int > int)", "?", "(int > bool)");
        due("[i?1- n i?1+ n]", "(int > ?)", "(? > int)", "(? > int)");
        due("[n i?1+ ni!]", "(int > ?)", "(? > int)", "(int > ?)");
        due("f?1+ [i?2- ni! i?1+ ni!]", "?", "(int > int)", "(? > ?)");
        due("f?1+ [i?2- ni! i?1+ ni!]f!", "?", "(int > int)", "?");
        due("[[n n] n]", "((int > int) > int)", "?", "((int > int) > int)");
        due("[[Xb2+i n] n]", "((bool > int) > int)", "?", "((int > int) > int)");
    }

    private static int cast(Probe p, String from, String to, int label) {
        return p.x.coerce(p.lay(from), p.lay(to), label);
    }

    /** Blame stays what it is, whatever is ahead of it or behind. */
    private static void blameStays() {
        Probe p = new Probe();
        int first = p.x.then(cast(p, "int", "?", 1), cast(p, "?", "bool", 2));
        int second = p.x.then(cast(p, "bool", "?", 3), cast(p, "?", "int", 4));
        Probe.due("X then X: the first", p.text(6, p.x.then(first, second)), "Xi2+b");
        Probe.due("X then X, turned round", p.text(6, p.x.then(second, first)), "Xb4+i");
        Probe q = new Probe();
        int ahead = cast(q, "(int > int)", "(? > int)", 5);
        int blame = q.x.then(cast(q, "(? > int)", "?", 6), cast(q, "?", "bool", 7));
        Probe.due("functions", q.text(6, ahead), "[i?5- n n]");
        Probe.due("X", q.text(6, blame), "Xf7+b");
        Probe.due("functions then X", q.text(6, q.x.then(ahead, blame)), "Xf7+b");
        Probe r = new Probe();
        int number = cast(r, "int", "int", 1);
        int wrong = r.x.then(cast(r, "int", "?", 2), cast(r, "?", "(? > ?)", 3));
        Probe.due("n then X", r.text(6, r.x.then(number, wrong)), "Xi3+f");
    }

    private static void refused() {
        Probe p = new Probe();
        p.lay("int");
        p.lay("?");
        p.lay("(int > ?)");
        p.lay("(? > int)");
        p.x.coerce(0, 1, 1);
        p.x.coerce(1, 2, 2);
        p.x.coerce(2, 3, 3);
        Probe.due("int to ?, int to ?", p.x.then(0, 0), -2);
        Probe.due("(int > ?) to (? > int), ? to (int > ?)", p.x.then(2, 1), -2);
        Probe.due("like ones fit, by whatever number", p.lay("(? > int)"), 4);
        p.x.coerce(4, 1, 4);
        Probe.due("laid", p.x.then(2, 3), 4);
        Probe.due("no such s", p.x.then(5, 0), -1);
        Probe.due("no such t", p.x.then(0, 5), -1);
        Probe.due("below", p.x.then(-1, 0), -1);
        Probe.due("greatest", p.x.then(0, 2147483647), -1);
        for (int i = 5; i < 16; i++) {
            p.x.coerce(0, 1, i);
        }
        Probe.due("there are sixteen", p.x.then(0, 1), -3);
        Probe.due("it does not fit comes first", p.x.then(0, 0), -2);
        Probe.due("coercions", p.x.count(4), 16);
        Probe.due("NONE comes first", p.x.then(16, 16), -1);
    }

    /** Casts put one behind another never grow beyond what their types allow. */
    private static void neverGrows() {
        Probe p = new Probe();
        p.lay("((int > bool) > (? > int))");
        p.lay("?");
        p.x.coerce(0, 1, 1);
        p.x.coerce(1, 0, 2);
        int there = p.x.then(0, 1);
        for (int round = 0; round < 12; round++) {
            int longer = p.x.then(there, there);
            Probe.due("size", p.x.coercion(longer, 0), p.x.coercion(there, 0));
            Probe.due("text", p.text(6, longer), p.text(6, there));
            there = longer;
        }
    }

    public static void main(String[] args) {
        joined();
        blameStays();
        refused();
        neverGrows();
        Probe.end();
    }
}
