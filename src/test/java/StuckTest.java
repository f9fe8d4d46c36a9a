/** "STUCK is a NODE": each node that can be, with each value that it can't be done with, bare; with casts that is blame. */
public final class StuckTest {
    private static final String[] SIGNS = {"+", "-", "<", "="};
    private static final String FUN = "(fun x int x)";

    private static void stuck(String term, int node, int steps, int given) {
        Probe p = new Probe();
        Probe.due(term + " is a program", p.say(term) > 0);
        Probe.due(term, p.run(2), "5 " + node + " 0");
        Probe.due(term + ": steps", p.x.run(2, 3), steps);
        for (int k : new int[] {steps, steps + 1, 1500}) {
            Probe.due(term + ": nothing is begun next", p.x.trace(2, k, 2), -2);
            Probe.due(term + ": the last value given", p.x.trace(2, k, 3), given);
        }
        Probe.due(term + ": its frame is gone", p.x.trace(2, steps, 0), p.x.trace(2, steps - 1, 0) - 1);
        Probe.due(term + ": no casts", p.x.run(2, 5) + p.x.run(2, 6) + p.x.run(2, 7) + p.x.run(2, 8), 0);
        for (int mode = 0; mode < 2; mode++) {
            Probe.due(term + ": blame in mode " + mode, p.x.run(mode, 0), 4);
            Probe.due(term + ": its side in mode " + mode, p.x.run(mode, 2), 1);
        }
    }

    private static void signs() {
        for (String sign : SIGNS) {
            stuck("(" + sign + " (as true ?) 1)", 0, 6, 1);
            stuck("(" + sign + " (as " + FUN + " ?) 1)", 0, 6, 1);
            stuck("(" + sign + " 1 (as false ?))", 0, 6, 2);
            stuck("(" + sign + " 1 (as " + FUN + " ?))", 0, 6, 3);
            stuck("(" + sign + " (as true ?) (as true ?))", 0, 7, 2);
            stuck("(" + sign + " (as " + FUN + " ?) (as " + FUN + " ?))", 0, 7, 3);
            stuck("(if true (" + sign + " 1 (as true ?)) (" + sign + " 1 1))", 2, 9, 2);
        }
    }

    private static void ifs() {
        stuck("(if (as 0 ?) 1 2)", 0, 4, 1);
        stuck("(if (as 1 ?) 1 2)", 0, 4, 1);
        stuck("(if (as " + FUN + " ?) 1 2)", 0, 4, 3);
        stuck("(+ 1 (if (as 1 ?) 1 2))", 2, 7, 1);
    }

    private static void calls() {
        stuck("((as 1 ?) 2)", 0, 6, 1);
        stuck("((as true ?) 2)", 0, 6, 1);
        stuck("((as 1 ?) true)", 0, 6, 2);
        stuck("((as 1 ?) " + FUN + ")", 0, 6, 3);
        stuck("(+ 1 ((as 1 ?) 2))", 2, 9, 1);
    }

    /** It is as the second value is given, no sooner: what is wrong within the second one comes first. */
    private static void second() {
        Probe p = new Probe();
        p.say("(+ (as true ?) (- 1 (as true ?)))");
        Probe.due("the inner one", p.run(2), "5 3 0");
        p.say("((as 1 ?) (- 1 (as true ?)))");
        Probe.due("the inner one of a call", p.run(2), "5 3 0");
        String loop = "((rec f (int > int) (fun n int (f n))) 1)";
        p.say("(+ (as true ?) " + loop + ")");
        Probe.due("it is stopped ahead of that", p.run(2) + " " + p.x.run(2, 3), "0 0 0 1500");
        p.say("((as 1 ?) " + loop + ")");
        Probe.due("a call is, too", p.run(2) + " " + p.x.run(2, 3), "0 0 0 1500");
        p.say("(if true 1 (+ 1 (as true ?)))");
        Probe.due("a branch that is not taken", p.run(2), "1 1 0");
    }

    /** Bare nothing is looked at but what is reckoned with. */
    private static void notStuck() {
        String[] terms = {"(as (as true ?) int)", "(let x int (as true ?) x)", "((fun x int x) (as true ?))",
            "(if true (as (as true ?) int) 2)"};
        for (String term : terms) {
            Probe p = new Probe();
            p.say(term);
            Probe.due(term + " bare", p.run(2), "2 1 0");
            Probe.due(term + " joined", p.x.run(0, 0), 4);
            Probe.due(term + " piled", p.x.run(1, 0), 4);
        }
    }

    public static void main(String[] args) {
        signs();
        ifs();
        calls();
        second();
        notStuck();
        Probe.end();
    }
}
