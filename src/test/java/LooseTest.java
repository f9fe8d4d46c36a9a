/** Promise 19: loose. */
public final class LooseTest {
    private static void toAndFro() {
        Probe p = new Probe();
        p.say("(let x int 1 (+ x 1))");
        Probe.due("as told it is", p.x.loose(0, false), -2);
        Probe.due("casts then", p.x.loose(0, true), 2);
        Probe.due("bits", p.x.count(6), 1);
        Probe.due("it is so", p.x.loose(0, true), -2);
        Probe.due("the term", p.text(8, 0), "(let x ? {1}1 (+ {0}x 1))");
        Probe.due("its value", p.run(0), "1 2 0");
        Probe.due("its steps", p.x.run(0, 3), 10);
        Probe.due("as told again", p.x.loose(0, false), 0);
        Probe.due("bits", p.x.count(6), 0);
        Probe.due("its steps", p.x.run(0, 3), 8);
        Probe.due("casts", p.x.count(2), 0);
    }

    private static void blameGoes() {
        Probe p = new Probe();
        p.say("(let x int (as true ?) 7)");
        Probe.due("blame", p.run(0), "4 1 1");
        Probe.due("loose", p.x.loose(0, true), 1);
        Probe.due("a value", p.run(0), "1 7 0");
        Probe.due("one told ? may be loose, too", p.x.loose(1, true), 1);
        Probe.due("bits", p.x.count(6), 3);
    }

    /** A loose one can't be: the call's part would be of a type higher than 6. */
    private static void canNotBe() {
        Probe p = new Probe();
        p.say("(fun f (? > ?) (f (fun x ? (fun x ? (fun x ? (fun x ? (fun x ? x)))))))");
        String text = p.text(8, 0);
        Probe.due("can't be", p.x.loose(0, true), -3);
        Probe.due("it stays", p.x.count(6), 0);
        Probe.due("all stays", p.text(8, 0), text);
        Probe.due("it is so comes first", p.x.loose(0, false), -2);

        p = new Probe();
        p.say("(fun f (? > ?) (let x (((((? > ?) > ?) > ?) > ?) > ?) (as 1 ?) (f x)))");
        Probe.due("can't be", p.x.loose(0, true), -3);
        Probe.due("the other is loose", p.x.loose(1, true), 1);
        Probe.due("then it can", p.x.loose(0, true), 2);
        Probe.due("back it can't", p.x.loose(1, false), -3);
        Probe.due("both stay", p.x.count(6), 3);
        Probe.due("casts stay", p.x.count(2), 2);
        Probe.due("it runs", p.run(0), "3 0 0");
        Probe.due("the first back", p.x.loose(0, false), 1);
        Probe.due("the second back", p.x.loose(1, false), 3);
    }

    private static void allTwelve() {
        Probe p = new Probe();
        p.say("(let a int 1".repeat(12) + " a" + ")".repeat(12));
        for (int i = 0; i < 12; i++) {
            Probe.due("it is so", p.x.loose(i, false), -2);
            Probe.due("casts then", p.x.loose(i, true), i + 1);
            Probe.due("it is so then", p.x.loose(i, true), -2);
            Probe.due("bits", p.x.count(6), (2 << i) - 1);
        }
        Probe.due("a thirteenth", p.x.loose(12, true), -1);
        Probe.due("all bits", p.x.count(6), 4095);
        for (int i = 0; i < 12; i++) {
            Probe.due("casts then", p.x.loose(i, false), 11 - i);
            Probe.due("it is so then", p.x.loose(i, false), -2);
            Probe.due("bits", p.x.count(6), 4095 & -(2 << i));
        }
    }

    /** Told types and those of functions are alike again, whatever was loose between. */
    private static void alikeAgain() {
        String[] types = {"?", "int", "bool", "(? > ?)", "(? > int)", "(? > bool)", "(int > ?)", "(int > int)",
            "(int > bool)", "(bool > ?)", "(bool > int)", "(bool > bool)"};
        for (String a : types) {
            for (String b : types) {
                Probe p = new Probe();
                String term = "(let f (" + a + " > int) (fun x " + a + " 1) "
                    + "(let g " + b + " (as 1 ?) (fun y " + b + " (fun z " + a + " f))))";
                int casts = b.equals("?") ? 1 : 2;
                p.say(term);
                Probe.due(term + ": casts", p.x.count(2), casts);
                for (int i = 0; i < 6; i++) {
                    p.x.loose(i, true);
                    Probe.due(term + ": as told again, " + i, p.x.loose(i, false), casts);
                }
                Probe.due(term + ": its text", p.text(7, 0), term);
            }
        }
    }

    public static void main(String[] args) {
        allTwelve();
        alikeAgain();
        toAndFro();
        blameGoes();
        canNotBe();
        Probe p = new Probe();
        Probe.due("no annotation", p.x.loose(0, true), -1);
        p.say("(as (as 1 int) int)");
        Probe.due("no such one", p.x.loose(2, true), -1);
        Probe.due("below", p.x.loose(-1, false), -1);
        Probe.due("greatest", p.x.loose(2147483647, true), -1);
        Probe.due("far", p.x.loose(32, true), -1);
        Probe.due("the last one", p.x.loose(1, true), 1);
        Probe.due("bits", p.x.count(6), 2);
        Probe.end();
    }
}
