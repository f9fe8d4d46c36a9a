/** Promise 11: join. */
public final class JoinTest {
    private static void due(String a, String b, String want) {
        for (int turn = 0; turn < 2; turn++) {
            Probe p = new Probe();
            p.lay(turn == 0 ? a : b);
            p.lay(turn == 0 ? b : a);
            int joined = p.x.join(0, 1);
            String got = joined < 0 ? "answer " + joined : p.text(0, joined);
            Probe.due(a + " and " + b, got, want);
        }
    }

    public static void main(String[] args) {
        due("?", "?", "?");
        due("?", "int", "?");
        due("bool", "bool", "bool");
        due("int", "bool", "?");
        due("int", "(? > ?)", "?");
        due("?", "(int > ?)", "?");
        due("(int > ?)", "(? > bool)", "(? > ?)");
        due("(int > bool)", "(int > bool)", "(int > bool)");
        due("(int > bool)", "(bool > bool)", "(? > bool)");
        due("((int > int) > bool)", "((int > bool) > bool)", "((int > ?) > bool)");
        due("((int > int) > bool)", "(int > bool)", "(? > bool)");
        Probe p = new Probe();
        p.lay("(int > bool)");
        p.lay("(bool > bool)");
        p.lay("int");
        Probe.due("laid", p.x.join(0, 1), 3);
        Probe.due("the one like it", p.x.join(1, 0), 3);
        Probe.due("? is laid", p.x.join(2, 0), 4);
        Probe.due("the first of like ones", p.x.join(4, 2), 4);
        Probe.due("types", p.x.count(3), 5);
        Probe.due("no such one", p.x.join(0, 5), -1);
        Probe.due("no such one", p.x.join(5, 0), -1);
        Probe.due("below", p.x.join(0, -1), -1);
        for (int i = 0; i < 7; i++) {
            p.lay("(? > ?)");
        }
        Probe.due("there are twelve", p.x.count(3), 12);
        p.x.clear(1);
        for (int i = 0; i < 11; i++) {
            p.lay("int");
        }
        p.lay("bool");
        Probe.due("none is left", p.x.join(0, 11), -3);
        Probe.due("types", p.x.count(3), 12);
        Probe.due("a like one is there", p.x.join(3, 4), 0);
        Probe.due("NONE comes first", p.x.join(0, 12), -1);
        Probe.end();
    }
}
