/** "whole numbers of 32 bits (+ - wrap)": the least and the greatest number, and what comes behind and ahead of them. */
public final class NumbersTest {
    /** A number as it is doubled twenty times: 2048 gives the least one. */
    private static final String DOUBLED = "(let d(int>int)(fun x int(+ x x))(let q(int>int)(fun x int(d(d(d(d x)))))"
        + "(let m int(q(q(q(q(q 2048)))))#)))";

    private static void due(String term, int kind, int number) {
        Probe p = new Probe();
        String whole = DOUBLED.replace("#", term);
        Probe.due(whole, p.say(whole) > 0);
        for (int mode = 0; mode < 3; mode++) {
            Probe.due(term + " in mode " + mode, p.run(mode), kind + " " + number + " 0");
            Probe.due("it ends", p.x.run(mode, 3) < 1500);
        }
    }

    public static void main(String[] args) {
        int least = Integer.MIN_VALUE;
        int greatest = Integer.MAX_VALUE;
        due("m", 1, least);
        due("(- m 1)", 1, greatest);
        due("(+ m 1)", 1, least + 1);
        due("(+(- m 1)1)", 1, least);
        due("(+(- m 1)(- m 1))", 1, -2);
        due("(+ m m)", 1, 0);
        due("(- 0 m)", 1, least);
        due("(- m m)", 1, 0);
        due("(-(- m 1)m)", 1, -1);
        due("(- m(- m 1))", 1, 1);
        due("(- 0(- m 1))", 1, least + 1);
        due("(+(- m 1)9999)", 1, least + 9998);
        due("(- m 9999)", 1, greatest - 9998);
        due("(< m(- m 1))", 2, 1);
        due("(<(- m 1)m)", 2, 0);
        due("(< m 0)", 2, 1);
        due("(< 0 m)", 2, 0);
        due("(< m m)", 2, 0);
        due("(< m(+ m 1))", 2, 1);
        due("(= m(- 0 m))", 2, 1);
        due("(= m(- m 1))", 2, 0);
        due("(= 0(+ m m))", 2, 1);
        due("(as m ?)", 1, least);
        due("(let y ? m(- y 1))", 1, greatest);

        Probe p = new Probe();
        p.say("(- 0 9999)");
        Probe.due("below 0", p.run(0), "1 -9999 0");
        p.say("(+ 9999 9999)");
        Probe.due("above 9999", p.run(0), "1 19998 0");
        p.say("(- 0 1)");
        Probe.due("-1", p.run(0), "1 -1 0");
        Probe.due("it is a value of sets", p.x.sets(4), 1);
        Probe.end();
    }
}
