/** Promise 12: coerce. */
public final class CoerceTest {
    private static void due(String a, String b, String want) {
        Probe p = new Probe();
        p.lay(a);
        p.lay(b);
        int made = p.x.coerce(0, 1, 7);
        Probe.due(a + " to " + b, made < 0 ? "answer " + made : p.text(6, made), want);
    }

    public static void main(String[] args) {
        due("?", "?", "n");
        due("int", "int", "n");
        due("bool", "bool", "n");
        due("int", "?", "ni!");
        due("bool", "?", "nb!");
        due("?", "int", "i?7+ n");
        due("?", "bool", "b?7+ n");
        due("(? > ?)", "?", "[n n]f!");
        due("?", "(? > ?)", "f?7+ [n n]");
        due("(? > ?)", "(? > ?)", "[n n]");
        due("(int > int)", "(int > int)", "[n n]");
        due("(int > bool)", "?", "[i?7- n nb!]f!");
        due("?", "(int > bool)", "f?7+ [ni! b?7+ n]");
        due("(int > ?)", "(? > bool)", "[i?7- n b?7+ n]");
        due("((int > ?) > ?)", "((? > int) > int)", "[[ni! ni!] i?7+ n]");
        due("((? > int) > ?)", "((int > ?) > int)", "[[i?7+ n i?7- n] i?7+ n]");
        due("((int > int) > int)", "?", "[f?7- [ni! i?7- n] ni!]f!");
        due("?", "((int > int) > int)", "f?7+ [[i?7+ n ni!]f! i?7+ n]");
        due("int", "bool", "answer -2");
        due("int", "(? > ?)", "answer -2");
        due("(int > ?)", "(bool > ?)", "answer -2");

        Probe p = new Probe();
        p.lay("int");
        p.lay("?");
        p.lay("bool");
        Probe.due("label 100", p.x.coerce(0, 1, 100), -1);
        Probe.due("label -1", p.x.coerce(0, 1, -1), -1);
        Probe.due("NONE comes first", p.x.coerce(0, 2, 100), -1);
        Probe.due("no such type", p.x.coerce(0, 3, 0), -1);
        Probe.due("no such type", p.x.coerce(3, 0, 0), -1);
        Probe.due("below", p.x.coerce(-1, 0, 0), -1);
        for (int i = 0; i < 16; i++) {
            Probe.due("laid", p.x.coerce(1, 0, i == 0 ? 0 : 99), i);
        }
        Probe.due("label 0", p.text(6, 0), "i?0+ n");
        Probe.due("label 99", p.text(6, 15), "i?99+ n");
        Probe.due("there are sixteen", p.x.coerce(1, 0, 5), -3);
        Probe.due("not consistent comes first", p.x.coerce(2, 0, 5), -2);
        Probe.due("coercions", p.x.count(4), 16);
        Probe.end();
    }
}
