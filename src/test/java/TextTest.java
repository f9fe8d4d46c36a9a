/** Promise 8: text. */
public final class TextTest {
    private static void terms() {
        Probe p = new Probe();
        p.say("( let x?1(+ x 01 ) )");
        Probe.due("a term", p.text(7, 0), "(let x ? 1 (+ x 1))");
        Probe.due("with its casts", p.text(8, 0), "(let x ? {1}1 (+ {0}x 1))");
        Probe.due("a part", p.text(7, 2), "(+ x 1)");
        Probe.due("none ahead of the node itself", p.text(8, 1), "1");
        Probe.due("a part with casts", p.text(8, 2), "(+ {0}x 1)");
        String all = "(let f (int > int) (rec g (int > int) (fun n int (if (< n 1) (- n n) "
            + "(+ n (g n))))) (= (f (as 1 int)) 2))";
        p.say(all.replace(" (", "("));
        Probe.due("all kinds", p.text(7, 0), all);
        Probe.due("all kinds, no casts", p.text(8, 0), all);
        p = new Probe();
        p.say("(if(as true ?)(as false ?)((as 1 ?)9999))");
        Probe.due("truths", p.text(7, 0), "(if (as true ?) (as false ?) ((as 1 ?) 9999))");
        Probe.due("truths with casts", p.text(8, 0), "(if {4}(as {0}true ?) (as {1}false ?) ({3}(as {2}1 ?) 9999))");
        for (String number : new String[] {"0", "1", "9", "10", "11", "99", "100", "101", "999", "1000", "1010"}) {
            Probe numbers = new Probe();
            numbers.say(number);
            Probe.due("a number", numbers.text(7, 0), number);
        }
        p.say("(fun abcdef (? > (bool > ?)) abcdef)");
        Probe.due("a long name", p.text(7, 0), "(fun abcdef (? > (bool > ?)) abcdef)");
    }

    private static void looseOnes() {
        Probe p = new Probe();
        p.say("(let x int 1 (as x int))");
        p.x.loose(1, true);
        Probe.due("as told", p.text(2, 1), "int");
        Probe.due("a term", p.text(7, 0), "(let x int 1 (as x ?))");
        p.x.loose(0, true);
        Probe.due("both", p.text(7, 0), "(let x ? 1 (as x ?))");
        Probe.due("with its casts", p.text(8, 0), "(let x ? {0}1 (as x ?))");
        Probe.due("a name's type", p.text(1, 3), "?");
    }

    private static void typesAndCasts() {
        Probe p = new Probe();
        p.say("(as (fun f (int > bool) (f 1)) ((? > ?) > ?))");
        Probe.due("a node's type", p.text(1, 1), "((int > bool) > bool)");
        Probe.due("of the whole", p.text(1, 0), "((? > ?) > ?)");
        Probe.due("annotation 0", p.text(2, 0), "(int > bool)");
        Probe.due("annotation 1", p.text(2, 1), "((? > ?) > ?)");
        Probe.due("from", p.text(3, 0), "((int > bool) > bool)");
        Probe.due("to", p.text(4, 0), "((? > ?) > ?)");
        Probe.due("its coercion", p.text(5, 0), "[[ni! b?0- n] nb!]");
    }

    private static void beside() {
        Probe p = new Probe();
        p.lay("?");
        p.lay("int");
        p.lay("bool");
        p.lay("(int > bool)");
        p.x.coerce(0, 0, 1);
        p.x.coerce(1, 0, 3);
        p.x.coerce(0, 2, 42);
        p.x.coerce(3, 0, 5);
        p.x.coerce(0, 3, 99);
        p.x.then(1, 2);
        p.x.then(3, 4);
        Probe.due("does not fit", p.x.then(2, 2), -2);
        Probe.due("n ?", p.text(6, 0), "n");
        Probe.due("up", p.text(6, 1), "ni!");
        Probe.due("down", p.text(6, 2), "b?42+ n");
        Probe.due("up of functions", p.text(6, 3), "[i?5- n nb!]f!");
        Probe.due("down to functions", p.text(6, 4), "f?99+ [ni! b?99+ n]");
        Probe.due("X", p.text(6, 5), "Xi42+b");
        Probe.due("there and back", p.text(6, 6), "[n n]");
        Probe.due("not laid", p.text(6, 7), "answer -1");
        p.lay("(? > ?)");
        p.x.coerce(4, 0, 7);
        p.x.coerce(0, 1, 8);
        p.x.then(7, 8);
        Probe.due("X of f", p.text(6, 9), "Xf8+i");
        p.lay("(bool > ?)");
        p.x.clear(0);
        p.x.coerce(3, 0, 11);
        p.x.coerce(0, 5, 22);
        p.x.then(0, 1);
        Probe.due("X with -", p.text(6, 2), "[Xb11-i nb!]");
    }

    private static void wrong() {
        Probe p = new Probe();
        p.say("(as 1 ?)");
        int[] lengths = {-1, 1, 1, 3, 1, 3, -1, 8, 11};
        for (int what = 0; what < 9; what++) {
            Probe.due("length " + what, p.x.text(what, 0, -1), lengths[what]);
            Probe.due("behind it " + what, p.x.text(what, 0, lengths[what] < 0 ? 0 : lengths[what]),
                lengths[what] < 0 ? -1 : -4);
            Probe.due("far behind it " + what, p.x.text(what, 0, 2147483647), lengths[what] < 0 ? -1 : -4);
            Probe.due("k -2", p.x.text(what, 0, -2), -1);
            Probe.due("i -1", p.x.text(what, -1, -1), -1);
            Probe.due("i too great", p.x.text(what, 2, -1), -1);
            Probe.due("i far too great", p.x.text(what, 2147483647, -1), -1);
        }
        Probe.due("what -1", p.x.text(-1, 0, -1), -1);
        Probe.due("what 9", p.x.text(9, 0, -1), -1);
        Probe.due("what 9 behind", p.x.text(9, 0, 5000), -1);
    }

    public static void main(String[] args) {
        terms();
        looseOnes();
        typesAndCasts();
        beside();
        wrong();
        Probe.end();
    }
}
