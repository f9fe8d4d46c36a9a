/** Promise 9: pair. */
public final class PairTest {
    private static void due(String a, String b, String want) {
        Probe p = new Probe();
        p.lay(a);
        p.lay(b);
        StringBuilder got = new StringBuilder();
        for (int what = 0; what < 5; what++) {
            got.append(p.x.pair(0, 1, what));
        }
        Probe.due(a + " and " + b, got.toString(), want);
    }

    public static void main(String[] args) {
        due("?", "?", "11111");
        due("int", "int", "11111");
        due("int", "bool", "00000");
        due("int", "?", "11110");
        due("?", "int", "10010");
        due("int", "(? > ?)", "00000");
        due("(? > ?)", "?", "11110");
        due("?", "(? > ?)", "10010");
        due("(int > int)", "?", "11100");
        due("(? > int)", "?", "11110");
        due("(int > ?)", "?", "11100");
        due("(int > int)", "(int > int)", "11111");
        due("(int > int)", "(? > int)", "11100");
        due("(? > int)", "(int > int)", "10110");
        due("(int > int)", "(int > ?)", "11110");
        due("(int > ?)", "(int > int)", "10010");
        due("(int > ?)", "(? > int)", "10000");
        due("(int > int)", "(bool > int)", "00000");
        due("((int > int) > int)", "((? > int) > int)", "11110");
        due("((? > int) > int)", "((int > int) > int)", "10010");
        due("((int > ?) > int)", "((int > int) > int)", "10110");
        due("((int > int) > int)", "((int > ?) > int)", "11100");
        due("((int > int) > int)", "?", "11100");
        due("(((int > ?) > ?) > int)", "?", "11100");
        due("(? > (? > int))", "?", "11110");
        due("(? > (int > ?))", "?", "11100");
        Probe p = new Probe();
        p.lay("?");
        Probe.due("with itself", p.x.pair(0, 0, 4), 1);
        Probe.due("no b", p.x.pair(0, 1, 0), -1);
        Probe.due("no a", p.x.pair(1, 0, 0), -1);
        Probe.due("below", p.x.pair(-1, 0, 0), -1);
        Probe.due("below", p.x.pair(0, -2147483648, 0), -1);
        Probe.due("what 5", p.x.pair(0, 0, 5), -1);
        Probe.due("what -1", p.x.pair(0, 0, -1), -1);
        Probe.end();
    }
}
