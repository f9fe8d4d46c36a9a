/** Promise 6: node. */
public final class NodeTest {
    private static final String ALL = "(let f (int > int) (rec g (int > int) (fun n int (if (< n 1) (- n n) "
        + "(+ n (g n))))) (= (f (as 1 int)) 2))";

    private static void column(Probe p, int what, int... want) {
        for (int i = 0; i < want.length; i++) {
            Probe.due("node " + i + " " + what, p.x.node(i, what), want[i]);
        }
    }

    private static void allKinds() {
        Probe p = new Probe();
        Probe.due("nodes", p.say(ALL), 21);
        column(p, 0, 4, 5, 3, 6, 10, 2, 0, 9, 2, 2, 8, 2, 12, 2, 2, 11, 12, 2, 7, 0, 0);
        column(p, 1, -2, 0, 1, 2, 3, 4, 4, 3, 7, 7, 3, 10, 10, 12, 12, 0, 15, 16, 16, 18, 15);
        column(p, 2, 0, 1, 2, -2, -2, 2, 1, -2, 2, 2, -2, 2, -2, 1, 2, -2, -2, 0, 3, 1, 2);
        column(p, 3, 1, 3, 3, 1, 1, 1, 1, 1, 1, 1, 1, 1, 1, 3, 1, 1, 1, 3, 1, 1, 1);
        column(p, 4, 1, 2, 2, 1, 1, 1, 1, 1, 1, 1, 1, 1, 1, 2, 1, 1, 1, 2, 1, 1, 1);
        column(p, 5, 1, 1, 1, 1, 1, 1, 1, 1, 1, 1, 1, 1, 1, 1, 1, 1, 1, 1, 1, 1, 1);
        column(p, 6, 0, 0, 0, 0, 0, 0, 0, 0, 0, 0, 0, 0, 0, 0, 0, 0, 0, 0, 0, 0, 0);
        column(p, 7, 21, 14, 13, 12, 3, 1, 1, 3, 1, 1, 5, 1, 3, 1, 1, 6, 4, 1, 2, 1, 1);
    }

    private static void truthsAndNames() {
        Probe p = new Probe();
        p.say("(let x bool true (let x int 5 (if (< x 6) false (let y bool true y))))");
        Probe.due("true", p.x.node(1, 2), 1);
        Probe.due("false", p.x.node(8, 2), 0);
        Probe.due("false is a truth", p.x.node(8, 0), 1);
        Probe.due("the innermost one tells x", p.x.node(6, 2), 2);
        p.say("(let x int 1 (let x int x x))");
        Probe.due("the first term of let does not know it", p.x.node(3, 2), 0);
        Probe.due("the second one does", p.x.node(4, 2), 2);
        p.say("(rec f (int > int) (fun f int f))");
        Probe.due("fun within rec", p.x.node(2, 2), 1);
    }

    private static void castsAndTyped() {
        Probe p = new Probe();
        p.say("(if (as true ?) (as 1 ?) 2)");
        column(p, 6, 2, 1, 0, 1, 0, 0);
        column(p, 5, 0, 0, 1, 0, 1, 1);
        column(p, 3, 1, 1, 1, 1, 1, 1);
        p.say("(+ 1 (let x ? 2 3))");
        column(p, 6, 0, 0, 1, 0, 0);
        column(p, 5, 0, 1, 0, 1, 1);
        p.say("(+ (as 1 ?) (as 2 ?))");
        column(p, 6, 2, 1, 0, 1, 0);
        p.say("(fun x (((((? > int) > int) > bool) > int) > int) 1)");
        Probe.due("a type too high leaves all as it was", p.x.count(0), 5);
        p.say("(fun x ((((int > int) > int) > bool) > int) 1)");
        column(p, 3, 11, 1);
        column(p, 4, 6, 1);
        column(p, 5, 1, 1);
    }

    /** A cast deep in any one of a node's parts, or on it, leaves the node untyped. */
    private static void typedInAllParts() {
        String not = "(let x ? 2 3)";
        String[] untyped = {"(if (< 1 #) 1 2)", "(if true # 2)", "(if true 1 #)", "(+ # 1)", "(+ 1 #)", "(= 1 #)",
            "(let y int # 1)", "(let y int 1 #)", "(as # int)", "((fun y int y) #)", "((fun y int #) 1)",
            "(rec f (int > int) (fun y int #))", "(fun y int #)"};
        for (String term : untyped) {
            Probe p = new Probe();
            p.say(term.replace("#", not));
            Probe.due(term + " with a cast deep in it", p.x.node(0, 5), 0);
            Probe.due(term + ": casts", p.x.count(2), 1);
            p.say(term.replace("#", "5"));
            Probe.due(term + " without", p.x.node(0, 5), 1);
            Probe.due(term + ": all are typed", p.x.count(8), p.x.count(0));
        }
    }

    private static void wrong() {
        Probe p = new Probe();
        p.say("(+ 1 2)");
        Probe.due("node 3", p.x.node(3, 0), -1);
        Probe.due("node -1", p.x.node(-1, 0), -1);
        Probe.due("what 8", p.x.node(0, 8), -1);
        Probe.due("what -1", p.x.node(0, -1), -1);
        Probe.due("greatest", p.x.node(2147483647, 2147483647), -1);
        Probe.due("least", p.x.node(-2147483648, -2147483648), -1);
    }

    public static void main(String[] args) {
        allKinds();
        truthsAndNames();
        castsAndTyped();
        typedInAllParts();
        wrong();
        Probe.end();
    }
}
