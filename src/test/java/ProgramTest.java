/** Promise 3: program, with the faults of texts and the nodes that can't be. */
public final class ProgramTest {
    private static void due(String term, int want) {
        Probe p = new Probe();
        Probe.due(term, p.say(term), want);
        Probe.due(term + ": the tape is empty", p.x.count(5), 0);
        if (want < 0) {
            Probe.due(term + ": the term that was stays", p.x.count(0), 1);
        }
    }

    private static String times(String s, int n) {
        return s.repeat(n);
    }

    private static void right() {
        due("0", 1);
        due("9999", 1);
        due("0009999", 1);
        due("  true  ", 1);
        due("(fun x int x)", 2);
        due("(fun abcdef int abcdef)", 2);
        due("(let x int 1(let x bool true x))", 5);
        due("(rec f (int > int) (fun n int (f n)))", 5);
        due("(if true 1 2)", 4);
        due("(as 1 ?)", 2);
        due("(+(- 1 2)(- 3 4))", 7);
        due("(<1 2)", 3);
        due("(=1 2)", 3);
        due("((fun x ? x) 1)", 4);
        due("(fun x(int>(? > bool))x)", 2);
        due("(fun fu int fu)", 2);
        due("(fun ints int ints)", 2);
    }

    private static void firstFault() {
        due(" ", -1001);
        due("    ", -1004);
        due("(", -1001);
        due("()", -1001);
        due("(1)", -1002);
        due("(1 2 3)", -1005);
        due("(1 2) 3", -1006);
        due("1)", -1001);
        due(">", -1000);
        due("?", -1000);
        due("(> 1 2)", -1001);
        due("(bool 1)", -1001);
        due("(true 1", -1007);
        due("fun", -1000);
        due("(fun 1 int 1)", -1005);
        due("(fun if int 1)", -1005);
        due("(fun int int 1)", -1005);
        due("(fun x y 1)", -1007);
        due("(fun x 1 1)", -1007);
        due("(fun x (int int) 1)", -1012);
        due("(fun x (int > int 1)", -1018);
        due("(fun x int)", -1010);
        due("(fun x int 1 2)", -1013);
        due("(as 1)", -1005);
        due("(as 1 x)", -1006);
        due("(let x int 1)", -1012);
        due("(if true 1)", -1010);
        due("(+ 1 2 3)", -1007);
        due("X", -1000);
        due("1\t", -1001);
        due("(rec f ? 1)", -1009);
        due("(rec f ? f)", -1009);
        due("(rec f ? (f 1))", -1010);
        due("(rec f ? ((fun x int x) 1))", -1010);
        due("(rec f ? (rec g ? (fun x ? x)))", -1010);
    }

    private static void namesAndNumbers() {
        due("abcdefg", -2000);
        due("(fun abcdefg int 1)", -2005);
        due("(fun x abcdefg 1)", -1007);
        due("10000", -3000);
        due("99999999999999999999", -3000);
        due("(+ 1 4294967297)", -3005);
        due("(fun 10000 int 1)", -1005);
        due("x", -5000);
        due("(fun x int y)", -5011);
        due("(let x int x 1)", -5011);
        due("(+ (fun x int x) x)", -5017);
        due("(let x int (let y int 1 y) y)", -5027);
        due("(if true 1 z)", -5011);
    }

    /** Sixty nodes in few bytes: calls of calls, the last token being the one too many or not. */
    private static void sixtyNodes() {
        due(times("(1", 19) + " 1" + times(")", 19), -9000 - 36);
        String fifteen = "(((x x)(x x))((x x)(x x)))";
        due("(fun x ? " + fifteen + ")", 16);
        String body = "((" + fifteen + fifteen + ")((" + fifteen + "((x x)(x x)))(x #)))";
        String sixty = "(fun x ?" + body + ")";
        due(sixty.replace("#", "x"), 60);
        String more = "(fun y ?" + sixty + ")";
        int place = more.indexOf("#");
        due(more.replace("#", "x"), -4000 - place);
        due(more.replace("#", "1"), -4000 - place);
        due(more.replace("#", "(x x)"), -4000 - place);
        due(more.replace("#", "zz"), -4000 - place);
        due(more.replace("#", "10000"), -3000 - place);
        due(more.replace("#", "abcdefg"), -2000 - place);
        due(more.replace("#", "?"), -1000 - place);
    }

    private static void annotations() {
        due(times("(as ", 12) + "1" + times(" int)", 12), 13);
        due(times("(as ", 13) + "1" + times(" int)", 13), -4000 - (13 * 4 + 1 + 12 * 5 + 1));
        due(times("(as ", 13) + "1" + times(" ?)", 12) + " x)", -1000 - (13 * 4 + 1 + 12 * 3 + 1));
        due(times("(as ", 12) + "(fun x(? > ?)1)" + times(" ?)", 12), -4000 - (12 * 4 + 15 + 11 * 3 + 1));
        due(times("(as ", 13) + "1" + times(" ?)", 12) + " (((((((? > ?) > ?) > ?) > ?) > ?) > ?) > ?))",
            -4000 - (13 * 4 + 1 + 12 * 3 + 1));
    }

    private static void deepParens() {
        due(times("(- 1 ", 20) + "1" + times(")", 20), 41);
        due(times("(- 1 ", 20) + "(- 1 1)" + times(")", 20), -6100);
        due(times("(- 1 ", 19) + "(as 1 int)" + times(")", 19), 40);
        due(times("(- 1 ", 19) + "(as 1(int > int))" + times(")", 19), -6000 - (19 * 5 + 5));
        due(times("(- 1 ", 17) + "(fun x(?>(?>?))1)" + times(")", 17), -9032);
        due(times("(- 1 ", 18) + "(fun x(?>(?>?))1)" + times(")", 18), -6000 - (18 * 5 + 9));
        due(times("(- 1 ", 18) + "(as 1((int > int) > int))" + times(")", 18), -6000 - (18 * 5 + 6));
        due(times("(- 1 ", 14) + "(as 1 ((((((? > ?) > ?) > ?) > ?) > ?) > ?))" + times(")", 14),
            -6000 - (14 * 5 + 11));
        due(times("(- 1 ", 13) + "(as 1 ((((((? > ?) > ?) > ?) > ?) > ?) > ?))" + times(")", 13),
            -7000 - (13 * 5 + 11));
    }

    private static void highTypes() {
        due("(fun x (((((? > ?) > ?) > ?) > ?) > ?) 1)", -9000);
        due("(as 1 (((((? > ?) > ?) > ?) > ?) > ?))", -9000);
        due("(as (as 1 ?) (((((? > ?) > ?) > ?) > ?) > ?))", 3);
        due("(as (as 1 ?) ((((((? > ?) > ?) > ?) > ?) > ?) > ?))", -7018);
        due("(as (as 1 ?) (? > (? > (? > (? > (? > (? > ?)))))))", -7038);
        due("(as (as 1 ?) (? > (? > (? > (? > (? > ?))))))", 3);
        due("(fun x ? (fun x ? (fun x ? (fun x ? (fun x ? x)))))", 6);
        due("(fun x ? (fun x ? (fun x ? (fun x ? (fun x ? (fun x ? x))))))", -9000);
        due("(fun f ? (f (fun x ? (fun x ? (fun x ? (fun x ? (fun x ? x)))))))", -9001);
        due("(fun f ? (f (fun x ? (fun x ? (fun x ? (fun x ? x))))))", 8);
    }

    private static void canNotBe() {
        due("(1 2)", -9000);
        due("(true 2)", -9000);
        due("(+ 1 true)", -9000);
        due("(- true 1)", -9000);
        due("(< 1 (fun x int x))", -9000);
        due("(= false 1)", -9000);
        due("(if 1 2 3)", -9000);
        due("(if true 1 false)", -9000);
        due("(if true (fun x int x) (fun x bool x))", -9000);
        due("(if true (fun x int 1) (fun x ? true))", -9000);
        due("(as 1 bool)", -9000);
        due("(let x bool 1 x)", -9000);
        due("(rec f int (fun x int x))", -9000);
        due("(rec f (int > bool) (fun x int x))", -9000);
        due("((fun x int x) true)", -9000);
        due("(+ (1 2) (+ 1 true))", -9001);
        due("(if (+ 1 true) (1 2) 3)", -9001);
        due("(+ (let x int 1 (x 1)) 1)", -9003);
    }

    private static void lengths() {
        Probe p = new Probe();
        Probe.due("nothing on the tape", p.x.program(1), -1);
        p.feed("(+ 1 2)");
        Probe.due("0", p.x.program(0), -1);
        Probe.due("below", p.x.program(-5), -1);
        Probe.due("not so many", p.x.program(21), -1);
        Probe.due("the tape stays", p.x.count(5), 20);
        Probe.due("the first bytes alone", p.x.program(7), 3);
        Probe.due("empty then", p.x.count(5), 0);
        p.feed("12345");
        Probe.due("a number ends with them", p.x.program(4), 1);
        Probe.due("it is", p.x.node(0, 2), 1234);
        p.feed("true(true");
        Probe.due("a word ends with them", p.x.program(4), 1);
        p.feed("trues");
        Probe.due("a word ends with them", p.x.program(4), 1);
        String long240 = "1" + times(" ", 239);
        p.feed(long240 + times(" ", 60));
        Probe.due("241", p.x.program(241), -1);
        Probe.due("greatest", p.x.program(2147483647), -1);
        Probe.due("least", p.x.program(-2147483648), -1);
        Probe.due("240", p.x.program(240), 1);
    }

    private static void looseGoes() {
        Probe p = new Probe();
        p.say("(as 1 int)");
        p.x.loose(0, true);
        Probe.due("loose", p.x.count(6), 1);
        Probe.due("a fault", p.say("(as 1 int"), -1009);
        Probe.due("still loose", p.x.count(6), 1);
        Probe.due("can't be", p.say("(as 1 bool)"), -9000);
        Probe.due("still loose, still cast", p.x.count(2), 1);
        Probe.due("it runs as before", p.run(0), "1 1 0");
        Probe.due("another", p.say("(as 2 int)"), 2);
        Probe.due("nothing is loose", p.x.count(6), 0);
        Probe.due("its value", p.run(0), "1 2 0");
        for (int i = 3; i < 6; i++) {
            Probe.due("one more", p.say("(as " + i + " int)"), 2);
            Probe.due("nothing is loose", p.x.count(6), 0);
            Probe.due("no casts", p.x.count(2), 0);
            Probe.due("its value", p.run(0), "1 " + i + " 0");
            p.x.loose(0, true);
        }
    }

    public static void main(String[] args) {
        right();
        firstFault();
        namesAndNumbers();
        sixtyNodes();
        annotations();
        deepParens();
        highTypes();
        canNotBe();
        lengths();
        looseGoes();
        Probe.end();
    }
}
