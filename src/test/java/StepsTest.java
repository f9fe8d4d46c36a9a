/**
 * "1500 at most: it is stopped where one more would be", for run and trace; 100 for tries and sets. Programs of a known
 * number of steps: the last that ends, and the first that is stopped.
 */
public final class StepsTest {
    /**
     * 15 steps, 16 more a round, 4 more a plus, 1 more an as. It has no casts; its value is the number of pluses. The
     * annotations are those of rec (0), fun (1), then of the as from within.
     */
    private static String taking(int rounds, int pluses, int as) {
        String loop = "((rec f(int>int)(fun n int(if(= n 0)0(f(- n 1)))))" + rounds + ")";
        return "(as".repeat(as) + "(+1".repeat(pluses) + loop + ")".repeat(pluses) + " int)".repeat(as);
    }

    private static Probe of(String term) {
        Probe p = new Probe();
        Probe.due(term, p.say(term) > 0);
        return p;
    }

    private static void ends(String term, int value, int steps) {
        Probe p = of(term);
        for (int mode = 0; mode < 3; mode++) {
            Probe.due(term, p.run(mode), "1 " + value + " 0");
            Probe.due(term + ": steps", p.x.run(mode, 3), steps);
            for (int k : new int[] {steps, Math.min(1500, steps + 1), 1500}) {
                Probe.due(term + ": at its end, frames", p.x.trace(mode, k, 0), 0);
                Probe.due(term + ": at its end, begun next", p.x.trace(mode, k, 2), -2);
                Probe.due(term + ": at its end, the value", p.x.trace(mode, k, 3), 1);
            }
            Probe.due(term + ": one ahead of its end, frames", p.x.trace(mode, steps - 1, 0), 1);
            Probe.due(term + ": one ahead of its end, the value given next", p.x.trace(mode, steps - 1, 3), 1);
        }
    }

    private static void fifteenHundred() {
        ends(taking(0, 1, 0), 1, 19);
        ends(taking(92, 3, 0), 3, 1499);
        ends(taking(92, 3, 1), 3, 1500);
        for (int as = 2; as < 5; as++) {
            Probe p = of(taking(92, 3, as));
            for (int mode = 0; mode < 3; mode++) {
                Probe.due("stopped, mode " + mode, p.run(mode), "0 0 0");
                Probe.due("its steps", p.x.run(mode, 3), 1500);
                Probe.due("frames where it is stopped", p.x.trace(mode, 1500, 0), as - 1);
                Probe.due("the value that would be given next", p.x.trace(mode, 1500, 3), 1);
            }
        }
        termWouldBeNext();
    }

    /** 1501 steps, the last of which begins a term: lets take 3 steps, all ahead of the loop. */
    private static void termWouldBeNext() {
        String inner = "(let z int 1".repeat(4) + taking(92, 0, 0) + ")".repeat(4);
        Probe ends = of("(as" + inner + "int)");
        Probe stopped = of("(as(as" + inner + "int)int)");
        for (int mode = 0; mode < 3; mode++) {
            Probe.due("it ends", ends.run(mode) + " " + ends.x.run(mode, 3), "1 0 0 1500");
            Probe.due("it is stopped", stopped.run(mode) + " " + stopped.x.run(mode, 3), "0 0 0 1500");
            Probe.due("no frame is left", stopped.x.trace(mode, 1500, 0), 0);
            Probe.due("the term that would be next", stopped.x.trace(mode, 1500, 2), 17);
            Probe.due("no value would be", stopped.x.trace(mode, 1500, 3), -2);
        }
    }

    /** It is not stopped there: in one of its steps blame, or what is stuck, is the last one. */
    private static void blameAtTheEnd() {
        String loop = "((rec f(int>?)(fun n int(if(= n 0)#(f(- n 1)))))%)";
        String blamed = "(+1 " + loop.replace("#", "true") + ")";
        int last = 0;
        for (int rounds = 0; rounds < 120; rounds++) {
            Probe p = of(blamed.replace("%", String.valueOf(rounds)));
            boolean ended = p.x.run(2, 0) == 5;
            Probe.due("stuck or stopped after " + rounds, ended || p.x.run(2, 0) == 0);
            Probe.due("stopped at 1500 alone", ended || p.x.run(2, 3) == 1500);
            Probe.due("rounds take 16 steps", !ended || p.x.run(2, 3) == 19 + 16 * rounds);
            last = ended ? rounds : last;
        }
        Probe.due("the last one that gets stuck", last, (1500 - 19) / 16);
    }

    /** Each bit of what tries tells: int as it is, ? with one step more. */
    private static void hundredOfTries() {
        int[][] want = {{98, 9}, {99, 9}, {100, 1}, {101, 0}, {102, 0}};
        for (int[] w : want) {
            Probe p = of(taking(4, 4, w[0] - 95));
            Probe.due("steps", p.x.run(0, 3), w[0]);
            for (int i = 2; i < 2 + w[0] - 95; i++) {
                Probe.due(w[0] + " steps, tries " + i + ": can", p.x.tries(i, 0), 9);
                Probe.due(w[0] + " steps, tries " + i + ": alike", p.x.tries(i, 1), w[1]);
            }
            Probe.due("its run goes on as before", p.run(0) + " " + p.x.run(0, 3), "1 4 0 " + w[0]);
        }
    }

    /** A loose as within one that is int: joined that takes 100 steps, piled 101; tries looks at joined casts alone. */
    private static void joinedInTries() {
        Probe p = of(taking(4, 4, 4));
        Probe.due("loose", p.x.loose(2, true), 2);
        Probe.due("joined", p.x.run(0, 3), 100);
        Probe.due("piled", p.x.run(1, 3), 101);
        Probe.due("it ends now", p.x.tries(3, 1), 9);
        Probe.due("so do both, if that one is int", p.x.tries(2, 1), 9);
        Probe.due("sets look at joined ones, too", p.x.sets(1), 4);
    }

    /** Sets of the first four: rec, fun and two as; either as, or both, being loose takes one step more. */
    private static void hundredOfSets() {
        int[][] want = {{98, 4}, {99, 4}, {100, 1}, {101, 0}, {102, 0}};
        for (int[] w : want) {
            Probe p = of(taking(4, 4, w[0] - 95));
            Probe.due(w[0] + " steps: can be checked", p.x.sets(0), 16);
            Probe.due(w[0] + " steps: end in a value", p.x.sets(1), w[1]);
            Probe.due(w[0] + " steps: in blame", p.x.sets(2), 0);
            Probe.due(w[0] + " steps: are stopped", p.x.sets(3), 16 - w[1]);
            Probe.due(w[0] + " steps: values", p.x.sets(4), w[1] > 0 ? 1 : 0);
            Probe.due(w[0] + " steps: the least number of casts", p.x.sets(5), 0);
        }
    }

    private static void stepsOfTrace() {
        Probe p = of(taking(92, 3, 2));
        for (int mode = 0; mode < 3; mode++) {
            for (int what = 0; what < 4; what++) {
                Probe.due("behind -1", p.x.trace(mode, -1, what), -1);
                Probe.due("behind 1501", p.x.trace(mode, 1501, what), -1);
            }
            Probe.due("behind 0: frames", p.x.trace(mode, 0, 0), 0);
            Probe.due("behind 0: casts", p.x.trace(mode, 0, 1), 0);
            Probe.due("behind 0: begun next", p.x.trace(mode, 0, 2), 0);
            Probe.due("behind 0: no value", p.x.trace(mode, 0, 3), -2);
            Probe.due("behind 1: begun next", p.x.trace(mode, 1, 2), 1);
            Probe.due("behind 1500: the value given next", p.x.trace(mode, 1500, 3), 1);
        }
    }

    public static void main(String[] args) {
        fifteenHundred();
        blameAtTheEnd();
        hundredOfTries();
        joinedInTries();
        hundredOfSets();
        stepsOfTrace();
        Probe.end();
    }
}
