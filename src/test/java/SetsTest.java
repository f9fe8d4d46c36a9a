/** Promise 20: sets. */
public final class SetsTest {
    private static void due(String term, int... want) {
        Probe p = new Probe();
        p.say(term);
        for (int what = 0; what < 7; what++) {
            Probe.due(term + ": what " + what, p.x.sets(what), want[what]);
        }
    }

    private static void stays() {
        Probe p = new Probe();
        p.say("(let a int 1 (let b int a (let c int b (let d int c (let e int d e)))))");
        p.x.loose(4, true);
        p.x.loose(1, true);
        String text = p.text(8, 0);
        Probe.due("sets", p.x.sets(0), 16);
        Probe.due("the fifth is as told for them", p.x.sets(5), 0);
        Probe.due("the most casts", p.x.sets(6), 4);
        Probe.due("loose as before", p.x.count(6), 18);
        Probe.due("all as before", p.text(8, 0), text);
        Probe.due("it runs as before", p.run(0), "1 1 0");
    }

    /** Sets of the first four alone, however many annotations there are. */
    private static void firstFour() {
        for (int n = 0; n <= 12; n++) {
            Probe p = new Probe();
            p.say("(let a int 1".repeat(n) + " 1" + ")".repeat(n));
            int few = Math.min(4, n);
            Probe.due(n + " annotations: sets", p.x.sets(0), 1 << few);
            Probe.due(n + " annotations: the least number of casts", p.x.sets(5), 0);
            Probe.due(n + " annotations: the greatest", p.x.sets(6), few);
            for (int i = 0; i < n; i++) {
                p.x.loose(i, true);
            }
            Probe.due(n + " loose ones: sets", p.x.sets(0), 1 << few);
            Probe.due(n + " loose ones: the least number of casts", p.x.sets(5), 0);
            Probe.due(n + " loose ones: the greatest", p.x.sets(6), few);
            Probe.due(n + " loose ones: they stay", p.x.count(6), (1 << n) - 1);
            Probe.due(n + " loose ones: casts stay", p.x.count(2), n);
        }
    }

    /** Values that are unlike: numbers and truths by themselves, functions as one; those of sets that end in blame not. */
    private static void unlikeValues() {
        due("(let x int (as true ?) x)", 4, 2, 2, 0, 1, 1, 2);
        due("(fun x ? x)", 2, 2, 0, 0, 1, 0, 0);
        due("(if true (fun x int 1) (fun x int 2))", 4, 4, 0, 0, 1, 0, 1);
        due("true", 1, 1, 0, 0, 1, 0, 0);
        due("(- 0 1)", 1, 1, 0, 0, 1, 0, 0);
    }

    /**
     * Sets that are stopped ahead of those that end. A round takes 23 steps, 22 with the let loose; three rounds, 18
     * steps around them and 15 of the ifs are 102 or 99; one more, where f itself is ?.
     */
    private static void stoppedAndEnding() {
        String loop = "((rec f (? > ?) (fun n ? (if (= n 0) 0 (let m int n (f (- n 1)))))) 3)";
        due("(if true ".repeat(5) + loop + " 0)".repeat(5), 8, 4, 0, 4, 1, 10, 12);
    }

    public static void main(String[] args) {
        firstFour();
        stoppedAndEnding();
        unlikeValues();
        due("5", 1, 1, 0, 0, 1, 0, 0);
        due("(let x int 1 (+ x 1))", 2, 2, 0, 0, 1, 0, 2);
        due("(let x ? true (+ x 1))", 2, 0, 2, 0, 0, 2, 2);
        due("(let x int (as true ?) 7)", 4, 2, 2, 0, 1, 1, 2);
        due("(fun x int (fun y bool x))", 4, 4, 0, 0, 1, 0, 0);
        due("(let a int 1 (let b int a (let c int b (let d int c (let e int d e)))))", 16, 16, 0, 0, 1, 0, 4);
        due("((rec f (int > int) (fun n int (f n))) 1)", 4, 0, 0, 4, 0, 0, 3);
        due("(fun f (? > ?) (f (fun x ? (fun x ? (fun x ? (fun x ? (fun x ? x)))))))", 8, 8, 0, 0, 1, 1, 1);
        stays();
        Probe p = new Probe();
        for (int what : new int[] {-2147483648, -1, 7, 2147483647}) {
            Probe.due("what " + what, p.x.sets(what), -1);
        }
        Probe.end();
    }
}
