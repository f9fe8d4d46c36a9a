/** Promise 4: type. */
public final class TypeTest {
    private static void fault(String type, int want) {
        Probe p = new Probe();
        Probe.due(type, p.lay(type), want);
        Probe.due(type + ": no type is laid", p.x.count(3), 0);
        Probe.due(type + ": the tape is empty", p.x.count(5), 0);
    }

    private static void right() {
        Probe p = new Probe();
        String[] told = {"?", "int", "bool", "(int > ?)", " ( ?>( bool>int ) ) ", "((?>?)>?)", "int",
            "(((((?>?)>?)>?)>?)>?)", "(?>(?>(?>(?>(?>?)))))"};
        String[] shown = {"?", "int", "bool", "(int > ?)", "(? > (bool > int))", "((? > ?) > ?)", "int",
            "(((((? > ?) > ?) > ?) > ?) > ?)", "(? > (? > (? > (? > (? > ?)))))"};
        for (int i = 0; i < told.length; i++) {
            Probe.due("number of " + told[i], p.lay(told[i]), i);
            Probe.due(told[i], p.text(0, i), shown[i]);
            Probe.due("empty then", p.x.count(5), 0);
        }
        Probe.due("types", p.x.count(3), told.length);
    }

    private static void faults() {
        fault(" ", -1001);
        fault("x", -1000);
        fault("intt", -1000);
        fault("abcdefgh", -1000);
        fault("1", -1000);
        fault("10000", -1000);
        fault("true", -1000);
        fault(")", -1000);
        fault("int int", -1004);
        fault("? ?", -1002);
        fault("(? > ?)?", -1007);
        fault("(int)", -1004);
        fault("(int > )", -1007);
        fault("(int > int", -1010);
        fault("(int < int)", -1005);
        fault("(int > int))", -1011);
        fault("(fun > int)", -1001);
        fault("((((((? > ?) > ?) > ?) > ?) > ?) > ?)", -7005);
        fault("(?>(?>(?>(?>(?>(?>?))))))", -7015);
        fault("(((((((((((((((((((((((((", -7005);
        fault("(((((", -1005);
        fault("(int int int)", -1005);
        fault("(> > >", -1001);
        fault("(int > ) ?", -1007);
        fault("((? ?) ?)", -1004);
    }

    private static void lengths() {
        Probe p = new Probe();
        Probe.due("nothing on the tape", p.x.type(1), -1);
        p.feed("int");
        Probe.due("0", p.x.type(0), -1);
        Probe.due("below", p.x.type(-1), -1);
        Probe.due("not so many", p.x.type(21), -1);
        Probe.due("the tape stays", p.x.count(5), 20);
        p.feed(" ".repeat(100));
        Probe.due("101", p.x.type(101), -1);
        Probe.due("greatest", p.x.type(2147483647), -1);
        Probe.due("the first bytes alone", p.x.type(3), 0);
        p.feed("intx");
        Probe.due("a word ends with them", p.x.type(3), 1);
        p.feed("bool" + " ".repeat(116));
        Probe.due("100", p.x.type(100), 2);
    }

    private static void twelve() {
        Probe p = new Probe();
        for (int i = 0; i < 12; i++) {
            Probe.due("like ones are laid too", p.lay("(int > ?)"), i);
        }
        Probe.due("a fault comes first", p.lay("(int > "), -1007);
        Probe.due("a thirteenth", p.lay("bool"), -2);
        Probe.due("the tape is empty", p.x.count(5), 0);
        Probe.due("twelve", p.x.count(3), 12);
        Probe.due("the program stays", p.x.count(0), 1);
    }

    public static void main(String[] args) {
        right();
        faults();
        lengths();
        twelve();
        Probe.end();
    }
}
