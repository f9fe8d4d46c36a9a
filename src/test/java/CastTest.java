/** Promise 7: cast. */
public final class CastTest {
    private static void row(Probe p, int c, int... want) {
        for (int what = 0; what < want.length; what++) {
            Probe.due("cast " + c + " " + what, p.x.cast(c, what), want[what]);
        }
    }

    /** All three parts of if bear casts, numbered from the left. */
    private static void ofIf() {
        Probe p = new Probe();
        p.say("(if (as true ?) (fun x int (as x ?)) (fun y ? 1))");
        Probe.due("casts of if", p.x.count(2), 5);
        row(p, 2, 0, 1);
        row(p, 3, 0, 3);
        row(p, 4, 0, 6);
        Probe.due("of the first", p.text(3, 2) + " to " + p.text(4, 2), "? to bool");
        Probe.due("of the second", p.text(3, 3) + " to " + p.text(4, 3), "(int > ?) to (? > ?)");
        Probe.due("of the third", p.text(3, 4) + " to " + p.text(4, 4), "(? > int) to (? > ?)");
    }

    public static void main(String[] args) {
        ofIf();
        Probe p = new Probe();
        p.say("(as (as (fun x int x) (? > int)) ?)");
        Probe.due("casts", p.x.count(2), 2);
        row(p, 0, 1, 2, 4, 2, 1, 0, 1);
        row(p, 1, 0, 1, 5, 2, 1, 1, 1);
        p.say("(as (as 1 ?) int)");
        row(p, 0, 1, 2, 2, 1, 1, 1, 1);
        row(p, 1, 0, 1, 2, 1, 0, 1, 2);
        p.say("(as (fun x int (as x ?)) (? > int))");
        row(p, 0, 2, 3, 2, 1, 1, 1, 1);
        row(p, 1, 0, 1, 5, 2, 0, 0, 0);
        p.say("(as (fun f (int > int) (f 1)) ((? > int) > int))");
        row(p, 0, 0, 1, 6, 3, 1, 1, 1);
        p.say("(+ (as 1 ?) ((as (fun x int x) ?) 2))");
        Probe.due("of a call of what is ?", p.text(3, 2) + " to " + p.text(4, 2), "? to (int > ?)");
        row(p, 0, 1, 2);
        row(p, 1, 4, 5);
        row(p, 2, 3, 4);
        row(p, 3, 0, 1);
        row(p, 4, 0, 3);
        for (int what = 0; what < 7; what++) {
            Probe.due("cast 5 " + what, p.x.cast(5, what), -1);
            Probe.due("cast -1 " + what, p.x.cast(-1, what), -1);
        }
        Probe.due("what 7", p.x.cast(0, 7), -1);
        Probe.due("what -1", p.x.cast(0, -1), -1);
        Probe.due("greatest", p.x.cast(2147483647, 2147483647), -1);
        Probe.due("least", p.x.cast(-2147483648, 0), -1);
        Probe.end();
    }
}
