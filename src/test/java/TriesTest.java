/** Promise 18: tries. */
public final class TriesTest {
    private static void due(String term, int i, int can, int alike) {
        Probe p = new Probe();
        p.say(term);
        Probe.due(term + ": can", p.x.tries(i, 0), can);
        Probe.due(term + ": alike", p.x.tries(i, 1), alike);
    }

    private static void stays() {
        Probe p = new Probe();
        p.say("(let x int (as true ?) (as x ?))");
        p.x.loose(1, true);
        String text = p.text(8, 0);
        String run = p.run(0) + " " + p.x.run(0, 3) + " " + p.x.trace(1, 3, 0);
        Probe.due("can", p.x.tries(0, 0), 15);
        Probe.due("it is blamed now", p.x.tries(0, 1), 0);
        Probe.due("nothing is changed", p.text(8, 0), text);
        Probe.due("it runs as before", p.run(0) + " " + p.x.run(0, 3) + " " + p.x.trace(1, 3, 0), run);
        Probe.due("loose as before", p.x.count(6), 2);
    }

    private static void others() {
        Probe p = new Probe();
        p.say("(let x int 5 (let y int x y))");
        Probe.due("the other being int", p.x.tries(1, 0), 9);
        p.x.loose(0, true);
        Probe.due("the other being loose", p.x.tries(1, 0), 15);
        Probe.due("alike ones", p.x.tries(1, 1), 9);
        Probe.due("a loose one is tried too", p.x.tries(0, 0), 9);
    }

    /** A run of more than a hundred steps does not end for this. */
    private static void hundredSteps() {
        Probe p = new Probe();
        p.say("((rec f (int > int) (fun n int (if (= n 0) 0 (f (- n 1))))) 5)");
        Probe.due("short enough", p.x.run(0, 3) <= 100);
        Probe.due("being ? it takes more steps", p.x.tries(1, 1), 1);
        Probe.due("loose", p.x.loose(1, true) > 0);
        Probe.due("too many", p.x.run(0, 3) > 100);
        p.say("((rec f (int > int) (fun n int (if (= n 0) 0 (f (- n 1))))) 2)");
        Probe.due("alike", p.x.tries(1, 1), 9);
        p.say("((rec f (int > int) (fun n int (if (= n 0) 0 (f (- n 1))))) 20)");
        Probe.due("too long", p.x.run(0, 3) > 100);
        Probe.due("can", p.x.tries(1, 0), 9);
        Probe.due("it does not end now", p.x.tries(1, 1), 0);
    }

    public static void main(String[] args) {
        due("(let x int 1 (+ x 1))", 0, 9, 9);
        due("(fun x int x)", 0, 15, 15);
        due("(let f (int > int) (fun x int x) f)", 0, 12, 12);
        due("((fun x ? 5) 3)", 0, 9, 9);
        due("((fun x ? 5) (as 3 ?))", 0, 15, 9);
        due("((fun x ? 5) (as 3 ?))", 1, 9, 9);
        due("(+ 1 (as true ?))", 0, 8, 0);
        due("(let x int (as true ?) 7)", 0, 15, 0);
        due("(let x ? (as true ?) 7)", 0, 15, 10);
        due("(if (as true ?) (as 1 ?) (as 2 ?))", 0, 10, 10);
        due("(as (as (as 1 ?) ?) ?)", 1, 15, 9);
        stays();
        others();
        hundredSteps();
        Probe p = new Probe();
        Probe.due("no annotation", p.x.tries(0, 0), -1);
        p.say("(as 1 ?)");
        Probe.due("no such one", p.x.tries(1, 0), -1);
        Probe.due("below", p.x.tries(-1, 0), -1);
        Probe.due("what 2", p.x.tries(0, 2), -1);
        Probe.due("what -1", p.x.tries(0, -1), -1);
        Probe.due("greatest", p.x.tries(2147483647, 0), -1);
        Probe.due("least", p.x.tries(-2147483648, 0), -1);
        Probe.end();
    }
}
