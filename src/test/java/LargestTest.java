/**
 * The largest types, coercions and terms that there can be: all of them are told whole. 3000 bytes of a text, which the
 * document names as the most, are more than any of them has.
 */
public final class LargestTest {
    private static int named = 0;

    /** A type of a height whose every end is the leaf. */
    private static String type(int height, String leaf) {
        return height == 1 ? leaf : "(" + type(height - 1, leaf) + ">" + type(height - 1, leaf) + ")";
    }

    /** Types 0, 1 the halves, 2 the whole of 32 ends, 3 ?. */
    private static Probe whole(String leaf) {
        Probe p = new Probe();
        p.lay("(" + type(5, leaf) + ">?)");
        p.lay("(?>" + type(5, leaf) + ")");
        Probe.due("the whole", p.x.meet(0, 1), 2);
        p.lay("?");
        return p;
    }

    private static void row(Probe p, int s, int... want) {
        for (int what = 0; what < want.length; what++) {
            Probe.due("coercion " + s + ", what " + what, p.x.coercion(s, what), want[what]);
        }
    }

    private static void types() {
        Probe p = whole("int");
        Probe.due("a type's text", p.text(0, 2), type(6, "int").replace(">", " > "));
        Probe.due("its join is no higher", p.x.join(0, 1), 4);
        Probe.due("the join's text", p.text(0, 4), "(? > ?)");
        Probe.due("as high as can be", p.x.pair(2, 0, 1), 1);
        Probe.due("100 bytes do not tell it", p.lay(type(6, "?")), -1);
    }

    private static void down() {
        Probe p = whole("int");
        Probe.due("down", p.x.coerce(3, 2, 99), 0);
        Probe.due("up", p.x.coerce(2, 3, 98), 1);
        Probe.due("down and up", p.x.then(0, 1), 2);
        Probe.due("up and down", p.x.then(1, 0), 3);
        row(p, 2, 3 * 63, 6, 4, 0, 63, -2, 0);
        row(p, 3, 63, 6, 2, 1, 0, -2, 0);
        Probe.due("up and down: bytes", p.x.text(6, 3, -1), 32 + 31 * 3);
        Probe.due("the last one", p.x.text(6, 3, 124), ']');
        Probe.due("none behind it", p.x.text(6, 3, 125), -4);
        Probe.due("down and up: bytes", p.x.text(6, 2, -1), 32 * 9 + 31 * 11);
        Probe.due("the last one", p.x.text(6, 2, 628), '!');
        Probe.due("none behind it", p.x.text(6, 2, 629), -4);
        Probe.due("none at 3000", p.x.text(6, 2, 3000), -4);
    }

    /** 16 ends of bool are more than 100 bytes: quarters 4 to 7 come to the whole, 10. */
    private static void blamed() {
        Probe p = whole("int");
        String quarter = type(4, "bool");
        for (String form : new String[] {"((#>?)>?)", "((?>#)>?)", "(?>(#>?))", "(?>(?>#))"}) {
            p.lay(form.replace("#", quarter));
        }
        Probe.due("two quarters", p.x.meet(4, 5), 8);
        Probe.due("three", p.x.meet(8, 6), 9);
        Probe.due("the whole of bool", p.x.meet(9, 7), 10);
        Probe.due("not consistent", p.x.coerce(10, 2, 5), -2);
        p.x.coerce(10, 3, 11);
        p.x.coerce(3, 2, 22);
        Probe.due("by way of ?", p.x.then(0, 1), 2);
        row(p, 2, 63, 6, 2, 0, 32, -2, 0);
        Probe.due("bytes", p.x.text(6, 2, -1), 32 * 6 + 31 * 3);
    }

    /** A tree of calls; the cast on what is called has the next number behind those of both parts. */
    private static String calls(int height, boolean casts) {
        if (height == 1) {
            return "a";
        }
        String called = calls(height - 1, casts);
        String argument = calls(height - 1, casts);
        String cast = casts ? "{" + named++ + "}" : "";
        return "(" + cast + called + " " + argument + ")";
    }

    private static void term() {
        Probe p = new Probe();
        String tree = calls(5, false);
        String told = "(let a?1".repeat(12) + "(+(+ a a)" + tree + ")" + ")".repeat(12);
        Probe.due("nodes", p.say(told), 59);
        named = 2;
        String inner = "(+ (+ {0}a {1}a) {17}" + calls(5, true) + ")";
        Probe.due("casts of calls", named, 17);
        StringBuilder lets = new StringBuilder();
        for (int cast = 29; cast >= 18; cast--) {
            lets.append("(let a ? {").append(cast).append("}1 ");
        }
        String shown = lets + inner + ")".repeat(12);
        Probe.due("as a term with casts", p.text(8, 0), shown);
        String bare = shown.replaceAll("\\{[0-9]*\\}", "");
        Probe.due("bytes without casts", p.x.text(7, 0, -1), bare.length());
        Probe.due("the last one", p.x.text(7, 0, bare.length() - 1), ')');
        Probe.due("none behind it", p.x.text(7, 0, bare.length()), -4);
    }

    /** Of 240 bytes: a name at the beginning of a text and a fault at its last byte have places. */
    private static void longestText() {
        Probe p = new Probe();
        String pad = " ".repeat(240 - 21);
        Probe.due("240 bytes", p.say("((fun x ? (+ x 1)) 2" + pad + ")"), 6);
        Probe.due("told short", p.text(7, 0), "((fun x ? (+ x 1)) 2)");
        Probe.due("a fault at the last byte", p.say("((fun x ? (+ x 1)) 2" + pad + "("), -1239);
        Probe.due("at the end", p.say("((fun x ? (+ x 1)) 2" + pad + " "), -1240);
    }

    public static void main(String[] args) {
        types();
        down();
        blamed();
        term();
        longestText();
        Probe.end();
    }
}
