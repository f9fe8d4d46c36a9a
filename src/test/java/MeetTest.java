/** Promise 10: meet. */
public final class MeetTest {
    private static void due(String a, String b, String want) {
        for (int turn = 0; turn < 2; turn++) {
            Probe p = new Probe();
            p.lay(turn == 0 ? a : b);
            p.lay(turn == 0 ? b : a);
            int met = p.x.meet(0, 1);
            String got = met < 0 ? "answer " + met : p.text(0, met);
            Probe.due(a + " and " + b, got, want);
        }
    }

    public static void main(String[] args) {
        due("?", "?", "?");
        due("?", "int", "int");
        due("bool", "bool", "bool");
        due("int", "bool", "answer -2");
        due("int", "(? > ?)", "answer -2");
        due("?", "(int > ?)", "(int > ?)");
        due("(int > ?)", "(? > bool)", "(int > bool)");
        due("(? > ?)", "((int > ?) > ?)", "((int > ?) > ?)");
        due("((? > bool) > ?)", "((int > ?) > (? > ?))", "((int > bool) > (? > ?))");
        due("(int > ?)", "(bool > ?)", "answer -2");
        due("(((((int > ?) > ?) > ?) > ?) > ?)", "(((((? > int) > ?) > ?) > ?) > bool)",
            "(((((int > int) > ?) > ?) > ?) > bool)");
        Probe p = new Probe();
        p.lay("(int > ?)");
        p.lay("(? > bool)");
        p.lay("bool");
        p.lay("(int > ?)");
        Probe.due("laid", p.x.meet(0, 1), 4);
        Probe.due("the one like it", p.x.meet(1, 3), 4);
        Probe.due("the first of like ones", p.x.meet(3, 3), 0);
        Probe.due("types", p.x.count(3), 5);
        Probe.due("not consistent", p.x.meet(2, 0), -2);
        Probe.due("no such one", p.x.meet(0, 5), -1);
        Probe.due("no such one", p.x.meet(5, 0), -1);
        Probe.due("below", p.x.meet(-1, 0), -1);
        Probe.due("greatest", p.x.meet(0, 2147483647), -1);
        full();
        Probe.end();
    }

    private static void full() {
        Probe p = new Probe();
        p.lay("(int > ?)");
        p.lay("(? > bool)");
        for (int i = 0; i < 10; i++) {
            p.lay("int");
        }
        Probe.due("there are twelve", p.x.meet(0, 1), -3);
        Probe.due("not consistent comes first", p.x.meet(0, 2), -2);
        Probe.due("a like one is there", p.x.meet(0, 0), 0);
        Probe.due("types", p.x.count(3), 12);
        Probe.due("NONE comes first", p.x.meet(0, 12), -1);
    }
}
