/** Promise 17: trace. */
public final class TraceTest {
    /** Frames, casts, the node that is begun next and the kind of value, behind each step. */
    private static void due(String term, int mode, String... want) {
        Probe p = new Probe();
        p.say(term);
        for (int k = 0; k < want.length; k++) {
            StringBuilder got = new StringBuilder();
            for (int what = 0; what < 4; what++) {
                got.append(what == 0 ? "" : " ").append(p.x.trace(mode, k, what));
            }
            Probe.due(term + " in mode " + mode + " behind " + k, got.toString(), want[k]);
        }
        int last = want.length - 1;
        for (int what = 0; what < 4; what++) {
            Probe.due("as it ended", p.x.trace(mode, 1500, what), p.x.trace(mode, last, what));
        }
        Probe.due("steps", p.x.run(mode, 3), last);
    }

    public static void main(String[] args) {
        due("5", 0, "0 0 0 -2", "0 0 -2 1");
        due("(+ 1 2)", 0, "0 0 0 -2", "1 0 1 -2", "1 0 -2 1", "1 0 2 -2", "1 0 -2 1", "0 0 -2 1");
        due("(let x bool true x)", 1, "0 0 0 -2", "1 0 1 -2", "1 0 -2 2", "0 0 2 -2", "0 0 -2 2");
        due("(rec f (int > int) (fun n int n))", 0, "0 0 0 -2", "1 0 1 -2", "1 0 -2 3", "0 0 -2 3");
        String called = "((as (fun x int x) (? > int)) 1)";
        due(called, 0, "0 0 0 -2", "1 0 1 -2", "2 1 2 -2", "2 1 -2 3", "1 0 -2 3", "2 1 4 -2", "2 1 -2 1",
            "1 0 -2 1", "1 1 3 -2", "1 1 -2 1", "0 0 -2 1");
        due(called, 2, "0 0 0 -2", "1 0 1 -2", "1 0 2 -2", "1 0 -2 3", "1 0 4 -2", "1 0 -2 1", "0 0 3 -2",
            "0 0 -2 1");
        String blamed = "(+ 1 (as true ?))";
        due(blamed, 0, "0 0 0 -2", "1 0 1 -2", "1 0 -2 1", "2 1 2 -2", "2 1 3 -2", "2 1 -2 2", "1 0 -2 2");
        due(blamed, 1, "0 0 0 -2", "1 0 1 -2", "1 0 -2 1", "2 1 2 -2", "3 2 3 -2", "3 2 -2 2", "2 1 -2 2",
            "1 0 -2 2");
        due(blamed, 2, "0 0 0 -2", "1 0 1 -2", "1 0 -2 1", "1 0 2 -2", "1 0 3 -2", "1 0 -2 2", "0 0 -2 2");
        due("(if (as 1 ?) 2 (as 3 ?))", 2, "0 0 0 -2", "1 0 1 -2", "1 0 2 -2", "1 0 -2 1", "0 0 -2 1");
        due("(if true 2 (as 3 ?))", 0, "0 0 0 -2", "1 0 1 -2", "1 0 -2 2", "1 1 2 -2", "1 1 -2 1", "0 0 -2 1");

        Probe p = new Probe();
        p.say("((rec f (int > int) (fun n int (f n))) 1)");
        Probe.due("back and forth", p.x.trace(0, 1000, 0), p.x.trace(1, 1000, 0));
        Probe.due("the last step", p.x.trace(0, 1500, 3) == p.x.trace(2, 1500, 3));
        Probe.due("its beginning again", p.x.trace(0, 0, 2), 0);
        Probe.due("the run is still whole", p.x.run(0, 3), 1500);
        int[][] wrong = {{-1, 0, 0}, {3, 0, 0}, {0, -1, 0}, {0, 1501, 0}, {0, 0, -1}, {0, 0, 4},
            {2147483647, 0, 0}, {0, 2147483647, 0}, {0, -2147483648, 0}, {0, 0, 2147483647}};
        for (int[] w : wrong) {
            Probe.due("no such ones", p.x.trace(w[0], w[1], w[2]), -1);
        }
        Probe.end();
    }
}
