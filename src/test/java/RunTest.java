/** Promise 16: run. */
public final class RunTest {
    /** All nine answers of a run: kind, number, side, steps, frames, casts, size, depth, joined. */
    private static void due(String term, int mode, int... want) {
        Probe p = new Probe();
        Probe.due(term + " is a program", p.say(term) > 0);
        for (int what = 0; what < want.length; what++) {
            Probe.due(term + " in mode " + mode + ", what " + what, p.x.run(mode, what), want[what]);
        }
    }

    private static void values() {
        for (int mode = 0; mode < 3; mode++) {
            due("7", mode, 1, 7, 0, 1, 0, 0, 0, 0, 0);
            due("true", mode, 2, 1, 0, 1, 0, 0, 0, 0, 0);
            due("false", mode, 2, 0, 0, 1, 0, 0, 0, 0, 0);
            due("(fun x int x)", mode, 3, 0, 0, 1, 0, 0, 0, 0, 0);
            due("(+ 1 2)", mode, 1, 3, 0, 5, 1, 0, 0, 0, 0);
            due("(- 1 2)", mode, 1, -1, 0, 5, 1, 0, 0, 0, 0);
            due("(< 1 2)", mode, 2, 1, 0, 5, 1, 0, 0, 0, 0);
            due("(< 2 2)", mode, 2, 0, 0, 5, 1, 0, 0, 0, 0);
            due("(= 2 2)", mode, 2, 1, 0, 5, 1, 0, 0, 0, 0);
            due("(= 2 3)", mode, 2, 0, 0, 5, 1, 0, 0, 0, 0);
            due("(if true 1 2)", mode, 1, 1, 0, 4, 1, 0, 0, 0, 0);
            due("(if false 1 2)", mode, 1, 2, 0, 4, 1, 0, 0, 0, 0);
            due("(let x int 5 (- x 1))", mode, 1, 4, 0, 8, 1, 0, 0, 0, 0);
            due("(as 1 int)", mode, 1, 1, 0, 2, 0, 0, 0, 0, 0);
            due("(let x int 1 (let f (int > int) (fun y int (+ x y)) (let x int 100 (f x))))", mode, 1, 101);
            due("((fun x int (fun y int (- x y))) 3)", mode, 3, 2, 0, 6, 1);
            due("(rec f (int > int) (fun n int n))", mode, 3, 1, 0, 3, 1);
            due("((rec f (int > int) (fun n int (if (= n 0) 0 (+ n (f (- n 1)))))) 10)", mode, 1, 55);
            due("((rec f (int > int) (fun n int (if (< n 0) n (f (+ n n))))) 9999)", mode, 1, 9999 << 18);
        }
    }

    private static void castsOnTheWay() {
        due("(as 1 ?)", 0, 1, 1, 0, 3, 1, 1, 2, 1, 0);
        due("(as (as 1 ?) int)", 0, 1, 1, 0, 4, 1, 1, 2, 1, 1);
        due("(as (as 1 ?) int)", 1, 1, 1, 0, 5, 2, 2, 2, 1, 0);
        due("(as (as 1 ?) int)", 2, 1, 1, 0, 3, 0, 0, 0, 0, 0);
        due("(as (fun x int x) ?)", 0, 3, 1, 0, 3, 1, 1, 6, 2, 0);
        due("((as (fun x int x) (? > int)) 1)", 0, 1, 1, 0, 10, 2, 1, 4, 2, 0);
        due("((as (fun x int x) (? > int)) 1)", 1, 1, 1, 0, 10, 2, 1, 4, 2, 0);
        due("((as (fun x int x) (? > int)) 1)", 2, 1, 1, 0, 7, 1, 0, 0, 0, 0);
        due("(+ (as 1 ?) (as (as 2 ?) ?))", 0, 1, 3);
        due("(let x ? true (if x 1 2))", 0, 1, 1);
        due("(rec f ? (fun n ? (if (= n 0) true (f (- n 1)))))", 0, 3, 1);
        due("((rec f ? (fun n ? (if (= n 0) true (f (- n 1))))) 3)", 0, 2, 1);
    }

    /** The greatest size is that of what a value bears, where no frame has one so great. */
    private static void borneByValues() {
        due("(as (as (fun x int x) (? > int)) (? > ?))", 0, 3, 2, 0, 4, 1, 1, 5, 2, 1);
        due("(as (as (fun x int x) (? > int)) (? > ?))", 1, 3, 2, 0, 5, 2, 2, 5, 2, 0);
        due("(let f (? > int) (fun x int x) (as f (? > ?)))", 0, 3, 1, 0, 7, 2, 1, 5, 2, 0);
        due("(let f (? > int) (fun x int x) (as f (? > ?)))", 2, 3, 1, 0, 5, 1, 0, 0, 0, 0);
        due("((fun f (? > ?) 1) (as (fun x int x) (? > int)))", 0, 1, 1, 0, 8, 2, 1, 5, 2, 1);
        due("(let f (? > int) (fun x int x) ((fun g (? > ?) 1) f))", 0, 1, 1, 0, 11, 2, 1, 5, 2, 0);
    }

    /** Names are what they were where the part stands, whatever was called ahead of it. */
    private static void namesBehindCalls() {
        String let = "(let f (int > int) (fun y int y) (let x int 1 #))";
        for (int mode = 0; mode < 3; mode++) {
            due(let.replace("#", "(+ (f 5) x)"), mode, 1, 6);
            due(let.replace("#", "(if (= (f 5) 5) x 0)"), mode, 1, 1);
            due(let.replace("#", "(if (= (f 5) 4) 0 (+ x x))"), mode, 1, 2);
            due(let.replace("#", "(let z int (f 7) (- z x))"), mode, 1, 6);
            due(let.replace("#", "((if (= (f 0) 0) f f) x)"), mode, 1, 1);
            due(let.replace("#", "(f (+ (f 3) x))"), mode, 1, 4);
            due(let.replace("#", "((fun x int (+ (f 8) x)) 3)"), mode, 1, 11);
        }
    }

    /** What a value bears stays with it: the next one bears nothing of it. */
    private static void nothingBorneOn() {
        due("(let f ? (fun x int x) (as 1 ?))", 0, 1, 1, 0, 7, 2, 1, 6, 2, 0);
        due("(let f ? true (as (as 2 ?) int))", 0, 1, 2);
        due("(let f ? true (as (as 2 ?) int))", 1, 1, 2);
        due("(let f ? true (let g ? (fun x int x) (as (+ 1 2) ?)))", 0, 1, 3);
        due("(let f ? 1 (if (= f 1) (as (fun x int x) ?) 3))", 0, 3, 7);
    }

    /** Functions that bear what is up to ? ahead and idle behind. */
    private static void upAhead() {
        due("((as (fun x ? 1) (int > int)) 5)", 0, 1, 1, 0, 9, 2, 1, 4, 2, 0);
        due("((as (fun g (? > int) 1) ((int > int) > int)) (fun y int y))", 0, 1, 1, 0, 9, 2, 1, 6, 3, 0);
    }

    /** A value that a name is bears what it bore as it was given, to functions and by let. */
    private static void borneByNames() {
        String call = "((fun x ? (+ x 1)) true)";
        due(call, 0, 4, 0, 1, 9, 2, 1, 2, 1, 0);
        due(call, 1, 4, 0, 1, 9, 2, 1, 2, 1, 0);
        due(call, 2, 5, 2, 0, 10, 1, 0, 0, 0, 0);
        String let = "(let x ? true (+ x 1))";
        due(let, 0, 4, 0, 1, 7, 2, 1, 2, 1, 0);
        due(let, 1, 4, 0, 1, 7, 2, 1, 2, 1, 0);
        due(let, 2, 5, 2, 0, 8, 1, 0, 0, 0, 0);
        due("((fun x ? (+ x 1)) 2)", 0, 1, 3, 0, 12, 2, 1, 2, 1, 0);
    }

    /** What comes to be IDLE is not borne: the call puts no frame then. */
    private static void idleIsNotBorne() {
        String term = "((as (as (fun x int x) ?) (int > int)) 5)";
        due(term, 0, 1, 5, 0, 9, 2, 1, 6, 2, 1);
        due(term, 1, 1, 5, 0, 10, 3, 2, 6, 2, 0);
    }

    /** Casts count where they are the most, though there are more frames at another time. */
    private static void mostCastsNotWithMostFrames() {
        String term = "(let x int (as (as 1 ?) int) (+ 1 (+ 1 (+ 1 (+ 1 1)))))";
        due(term, 0, 1, 5, 0, 23, 4, 1, 2, 1, 1);
        due(term, 1, 1, 5, 0, 24, 4, 2, 2, 1, 0);
    }

    /** A coercion in a frame counts as it lies there: joined, be it smaller or greater than what was put. */
    private static void sizeAsItLies() {
        String smaller = "(+ 1 (as (fun x int x) ?))";
        due(smaller, 0, 4, 1, 1, 6, 2, 1, 2, 1, 1);
        due(smaller, 1, 4, 1, 1, 7, 3, 2, 6, 2, 0);
        String greater = "(as (as (let y int (as true ?) (fun x int x)) (? > int)) (? > ?))";
        due(greater, 0, 4, 1, 1, 6, 3, 2, 5, 2, 2);
        due(greater, 1, 4, 1, 1, 7, 5, 4, 4, 2, 0);
    }

    private static void blame() {
        due("(+ 1 (as true ?))", 0, 4, 1, 1, 6, 2, 1, 2, 1, 1);
        due("(+ 1 (as true ?))", 1, 4, 1, 1, 7, 3, 2, 2, 1, 0);
        due("(+ 1 (as true ?))", 2, 5, 0, 0, 6, 1, 0, 0, 0, 0);
        due("((as (as (fun x int x) ?) (bool > int)) true)", 0, 4, 0, -1, 8, 2, 1, 6, 2, 1);
        due("((as (as (fun x int x) ?) (bool > int)) true)", 1, 4, 0, -1, 9, 3, 2, 6, 2, 0);
        due("((as (as (fun x int true) ?) (int > int)) 1)", 0, 4, 1, 1);
        due("(if (as 1 ?) 2 3)", 0, 4, 1, 1, 4, 2, 1, 2, 1, 1);
        due("((as 1 ?) 2)", 0, 4, 1, 1, 4);
    }

    private static void stuck() {
        due("(if (as 1 ?) 2 3)", 2, 5, 0, 0, 4, 1, 0, 0, 0, 0);
        due("((as 1 ?) 2)", 2, 5, 0, 0, 6, 1, 0, 0, 0, 0);
        due("(- 5 (+ (as true ?) 1))", 2, 5, 2, 0, 9, 2);
        due("(< (as (fun x int x) ?) 1)", 2, 5, 0, 0, 6);
        due("(= 1 (as false ?))", 2, 5, 0, 0, 6);
        due("(let x int (as true ?) x)", 2, 2, 1);
        due("(let x int (as true ?) x)", 0, 4, 1, 1);
    }

    private static void stopped() {
        for (int mode = 0; mode < 3; mode++) {
            due("((rec f (? > ?) (fun x ? (f x))) 1)", mode, 0, 0, 0, 1500);
        }
        due("((rec f (int > int) (fun n int (f n))) 1)", 0, 0, 0, 0, 1500, 2, 0, 0, 0, 0);
    }

    /** A loop whose result is cast each time round: joined they take no room, piled they do. */
    private static void roomOfCallsAtTheEnd() {
        int[] joined = new int[2];
        int[] piled = new int[2];
        for (int i = 0; i < 2; i++) {
            int rounds = i == 0 ? 5 : 50;
            Probe p = new Probe();
            p.say("((rec loop (int > ?) (fun n int (if (= n 0) 0 (as (loop (- n 1)) int)))) " + rounds + ")");
            Probe.due("joined", p.run(0), "1 0 0");
            Probe.due("piled", p.run(1), "1 0 0");
            joined[i] = p.x.run(0, 4);
            piled[i] = p.x.run(1, 4);
            Probe.due("the greatest size is that of the function's cast", p.x.run(0, 6), 4);
            Probe.due("joined as often as round", p.x.run(0, 8) >= rounds);
            Probe.due("never joined", p.x.run(1, 8), 0);
        }
        Probe.due("joined: as much room for more rounds", joined[1], joined[0]);
        Probe.due("piled: two frames a round more", piled[1] - piled[0], 90);
    }

    private static void wrong() {
        Probe p = new Probe();
        for (int bad : new int[] {-2147483648, -1, 3, 2147483647}) {
            Probe.due("mode " + bad, p.x.run(bad, 0), -2147483648);
        }
        for (int bad : new int[] {-2147483648, -1, 9, 2147483647}) {
            Probe.due("what " + bad, p.x.run(0, bad), -2147483648);
        }
        Probe.due("it goes on", p.run(1), "1 0 0");
    }

    public static void main(String[] args) {
        values();
        castsOnTheWay();
        borneByValues();
        namesBehindCalls();
        nothingBorneOn();
        upAhead();
        borneByNames();
        idleIsNotBorne();
        mostCastsNotWithMostFrames();
        sizeAsItLies();
        blame();
        stuck();
        stopped();
        roomOfCallsAtTheEnd();
        wrong();
        Probe.end();
    }
}
