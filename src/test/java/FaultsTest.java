/**
 * The section "Terms" of the document, texts: each fault at its place (# stands ahead of it), the last text that has none
 * and the first that has one, and of several faults of one token the least number.
 */
public final class FaultsTest {
    private static final String[] WORDS = {"fun", "let", "rec", "if", "as", "int", "bool", "true", "false"};

    /** One of each form of a term, and of types, told by tokens. */
    private static final String[] FORMS = {"7", "true", "false", "( fun x int x )", "( let x ? 1 x )",
        "( rec f ( int > ? ) ( fun x int x ) )", "( if true 1 2 )", "( as 1 int )", "( + 1 2 )", "( - 1 2 )", "( < 1 2 )",
        "( = 1 2 )", "( ( fun x ? x ) 1 )", "( as ( as 1 ? ) ( ( ? > ? ) > ( bool > int ) ) )"};

    private static void due(String marked, int fault) {
        String text = marked.replace("#", "");
        Probe p = new Probe();
        Probe.due(marked, p.say(text), -1000 * fault - marked.indexOf('#'));
        Probe.due(marked + ": the term that was stays", p.text(7, 0), "0");
        Probe.due(marked + ": the tape is empty", p.x.count(5), 0);
    }

    private static void stands(String text, int nodes) {
        Probe.due(text, new Probe().say(text), nodes);
    }

    private static String times(String s, int n) {
        return s.repeat(n);
    }

    /** Cut behind each token, with blanks and without: it is the end that can't stand there, at the length. */
    private static void endOfText() {
        for (String form : FORMS) {
            String[] tokens = form.split(" ");
            StringBuilder cut = new StringBuilder();
            for (int k = 0; k < tokens.length - 1; k++) {
                cut.append(tokens[k]);
                due(cut + "#", 1);
                cut.append(' ');
                due(cut + "#", 1);
                due(cut + "   #", 1);
            }
        }
        due(times(" ", 240) + "#", 1);
    }

    /** A sign that begins no token, and one token too many, can stand nowhere. */
    private static void wrongTokens() {
        char[] signs = {0, 9, 10, 13, 31, 33, 39, 42, 44, 47, 58, 59, 64, 65, 90, 91, 96, 123, 127, 128, 160, 255};
        for (char sign : signs) {
            for (String form : FORMS) {
                String[] tokens = form.split(" ");
                StringBuilder ahead = new StringBuilder();
                for (String token : tokens) {
                    due(ahead + "#" + sign + token, 1);
                    ahead.append(token).append(' ');
                }
                due(ahead + "#" + sign, 1);
            }
        }
        for (String form : FORMS) {
            for (String more : new String[] {")", "(", "1", "x", "?", ">", "+", "-", "<", "=", "int", "fun", "true"}) {
                due(form + " #" + more, 1);
            }
        }
    }

    /** Of the nine words none is a name, and only two are terms. */
    private static void words() {
        for (String word : WORDS) {
            for (String head : new String[] {"fun", "let", "rec"}) {
                due("(" + head + " #" + word + " ? 1)", 1);
            }
            boolean term = word.equals("true") || word.equals("false");
            if (term) {
                stands(word, 1);
            } else {
                due("#" + word, 1);
                due("(if true #" + word + " 1)", 1);
            }
            boolean head = "fun let rec if as".contains(word);
            if (!term && !head) {
                due("(#" + word + " 1 1)", 1);
            }
            boolean type = word.equals("int") || word.equals("bool");
            if (!type) {
                due("(as 1 #" + word + ")", 1);
                due("(as 1 (? > #" + word + "))", 1);
            }
            stands("(fun " + word + "s ? " + word + "s)", 2);
        }
        for (String sign : new String[] {")", "?", ">", "+", "-", "<", "="}) {
            due("#" + sign, 1);
            due("(fun #" + sign + " ? 1)", 1);
            due("(+ 1 #" + sign + ")", 1);
        }
    }

    private static void recBeginsWithFun() {
        stands("(rec f ? (fun x ? x))", 3);
        for (String other : new String[] {"1", "true", "f", "x", "abcdefg", "10000", "fun", "?", ")"}) {
            due("(rec f ? #" + other + ")", 1);
        }
        for (String other : new String[] {"let", "rec", "if", "as", "+", "-", "<", "=", "f", "1", "(", ")", "abcdefg"}) {
            due("(rec f ? (#" + other + " x ? x))", 1);
        }
    }

    private static void namesOfSixLetters() {
        stands("(fun a ? a)", 2);
        stands("(fun z ? z)", 2);
        stands("(fun abcdef ? abcdef)", 2);
        stands("(fun zzzzzz ? zzzzzz)", 2);
        due("(fun #abcdefg ? 1)", 2);
        due("(let #abcdefg ? 1 1)", 2);
        due("(rec #abcdefg ? (fun x ? x))", 2);
        due("#abcdefg", 2);
        due("(#zzzzzzz 1)", 2);
        due("(fun abcdef ? #abcdefg)", 2);
        due("(+ 1 #" + times("a", 200) + ")", 2);
        due("#" + times("q", 240), 2);
        due("(as 1 #abcdefg)", 1);
    }

    private static void numbersTo9999() {
        stands("0", 1);
        stands("9999", 1);
        due("#10000", 3);
        due("(+ 9999 #10000)", 3);
        due("#2147483648", 3);
        due("#4294967296", 3);
        due("#" + times("9", 240), 3);
        due("(as 1 #10000)", 1);
        due("(fun #10000 ? 1)", 1);
        Probe p = new Probe();
        p.say("(+ 0 9999)");
        Probe.due("the least number", p.x.node(1, 2), 0);
        Probe.due("the greatest number", p.x.node(2, 2), 9999);
    }

    /** As many calls of x as take n nodes, told by 20 open ones at most. */
    private static String nodes(int n) {
        if (n == 1) {
            return "x";
        }
        int left = (n - 1) / 2 % 2 == 0 ? (n - 1) / 2 - 1 : (n - 1) / 2;
        return "(" + nodes(left) + " " + nodes(n - 1 - left) + ")";
    }

    private static void sixtyNodes() {
        stands("(fun x ? " + nodes(57) + ")", 58);
        stands("(fun x ? " + nodes(59) + ")", 60);
        String more = "(fun x ? (" + nodes(57) + " #";
        Probe.due("the 60th", new Probe().say(more.replace("#", "x))")), 60);
        String full = "(fun x ? (fun y ? (" + nodes(57) + " #";
        for (String token : new String[] {"x))", "1)))", "true)))", "(x x))))", "zz", "fals", "("}) {
            due(full + token, 4);
        }
        due(full + "10000)))", 3);
        due(full + "abcdefg)))", 2);
        due(full + ")))", 1);
        due(full + "if", 1);
        due(full, 1);
    }

    /** Lets told one within another: n annotations ahead of what stands within. */
    private static String lets(int n) {
        return times("(let a?1", n);
    }

    private static void twelveAnnotations() {
        stands(lets(12) + " a" + times(")", 12), 25);
        due(lets(12) + "(let a#?1 a)", 4);
        due(lets(12) + "(fun a #int a)", 4);
        due(lets(12) + "(rec a #(?>?)(fun a ? a))", 4);
        due(lets(12) + "(as a #bool)", 4);
        due(lets(11) + "(rec a(?>?)(fun a#? a))", 4);
        due(lets(12) + "(as a #x)", 1);
        due(lets(12) + "(as a #)", 1);
        due(lets(12) + "(as a #", 1);
        Probe p = new Probe();
        p.say(lets(12) + " a" + times(")", 12));
        Probe.due("annotations", p.x.count(1), 12);
        Probe.due("the last one", p.x.text(2, 11, 0), '?');
        Probe.due("none behind it", p.x.text(2, 12, 0), -1);
    }

    /** A name is told where it stands, neither ahead of that nor behind it. */
    private static void names() {
        stands("(fun x ? x)", 2);
        stands("(let x ? 1 x)", 3);
        stands("(rec x ? (fun y ? x))", 3);
        due("#x", 5);
        due("((fun x ? 1) #x)", 5);
        due("(let x ? #x 1)", 5);
        due("(+ (let x ? 1 1) #x)", 5);
        due("((rec x ? (fun y ? 1)) #x)", 5);
        due("(rec x ? (fun y ? #z))", 5);
        due("(fun x ? #y)", 5);
        due("(fun abcdef ? #abcde)", 5);
        due("(fun abcde ? #abcdef)", 5);
        due("(#letx?1 x)", 5);
        stands("(let x?1x)", 3);
    }

    private static void twentyOpen() {
        stands(times("(+1", 20) + " 1" + times(")", 20), 41);
        due(times("(+1", 20) + "#(+1 1)" + times(")", 20), 6);
        due(times("(+1", 20) + "#(", 6);
        stands(times("(+1", 19) + "(as 1 int)" + times(")", 19), 40);
        due(times("(+1", 19) + "(as 1#(?>?))" + times(")", 19), 6);
        due(times("(+1", 18) + "(as 1(?>#(?>?)))" + times(")", 18), 6);
        due(times("(+1", 18) + "(as 1(#(?>?)>?))" + times(")", 18), 6);
        Probe.due("closed ones do not count", new Probe().say("(+" + times("(+1", 19) + " 1" + times(")", 19) + "(+1 1))"), 43);
        due("(+" + times("(+1", 9) + " 1" + times(")", 9) + times("(+1", 19) + "#(+1 1)", 6);
    }

    private static void typesOfHeightSix() {
        stands("(as(as 1?)(((((?>?)>?)>?)>?)>?))", 3);
        stands("(as(as 1?)(?>(?>(?>(?>(?>?))))))", 3);
        due("(as 1(((((#(?>?)>?)>?)>?)>?)>?))", 7);
        due("(as 1(?>(?>(?>(?>(?>#(?>?)))))))", 7);
        due("(as 1(?>((?>(?>(?>#(?>?))))>?)))", 7);
        due("(fun x(((((#(?>?)>?)>?)>?)>?)>?)1)", 7);
        due("(let x(((((#(?>?)>?)>?)>?)>?)>?)1 1)", 7);
        due("(rec x(((((#(?>?)>?)>?)>?)>?)>?)(fun x?1))", 7);
        due("(as 1(((((#(", 7);
        due("(as 1(((((#", 1);
    }

    /** Of one token the least number; of several tokens the first from the left. */
    private static void severalFaults() {
        due(times("(+(+1 1)", 10) + times("(+1", 10) + "#(+1 1)", 4);
        due(times("(+(+1 1)", 9) + times("(+1", 11) + "#(+1 1)", 6);
        due(lets(12) + times("(+1", 7) + "(fun x#(?>?)1)", 4);
        due(times("(+1", 14) + "(as 1(((((#(?>?)>?)>?)>?)>?)>?))", 6);
        due(times("(+1", 13) + "(as 1(((((#(?>?)>?)>?)>?)>?)>?))", 7);
        due("(+ #abcdefg 10000)", 2);
        due("(+ #10000 abcdefg)", 3);
        due("(+ #x ?)", 5);
        due("(+ #? x)", 1);
        due("(+ true #x)", 5);
        due("(+ true 1#", 1);
        due("(+ true 1) #1", 1);
    }

    /** A second token that is wrong, behind one with which it could have gone on, changes nothing. */
    private static void secondFault() {
        due("(+ (+ 1 2 #3 4) 5)", 1);
        due("(+ (+ 1 2 #3 4 ?", 1);
        due("(as 1 (int #int int))", 1);
        due("(as 1 (#> > >))", 1);
        due("(as 1 (int > int #int) int)", 1);
        due("(fun x (int > #) x ?)", 1);
        due("(+ (rec f int (#) ?", 1);
        due("(+ (rec f int #1) ?", 1);
        due("(let #1 ? ? ?)", 1);
        due("(let #abcdefg 10000 abcdefg 10000)", 2);
        due("(+ (fun #abcdefg ? 1) 10000)", 2);
        due("(if #x y z)", 5);
        due("(let x ? #x y)", 5);
        due("(+ #10000 10000)", 3);
        due("(as 1 (((((#(((((((((((((((((((((((", 7);
        due(lets(12) + "(let a#?(let a? 10000 b) ?)", 4);
        due(times("(+1", 20) + "#((((x", 6);
    }

    public static void main(String[] args) {
        endOfText();
        wrongTokens();
        words();
        recBeginsWithFun();
        namesOfSixLetters();
        numbersTo9999();
        sixtyNodes();
        twelveAnnotations();
        names();
        twentyOpen();
        typesOfHeightSix();
        severalFaults();
        secondFault();
        Probe.end();
    }
}
