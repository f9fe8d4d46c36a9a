/** What is kept has an end: 300 bytes, 12 types, 16 coercions, 240 and 100 bytes of a text. */
public final class FullTest {
    private static void tape() {
        Probe p = new Probe();
        for (int k = 1; k <= 15; k++) {
            Probe.due("feed " + k, p.x.feed(0x20202020, 0x20202020, 0x20202020, 0x20202020, 0x20202020), 20 * k);
        }
        for (int k = 0; k < 3; k++) {
            Probe.due("one more", p.x.feed(0x31313131, 0, 0, 0, 0), -1);
            Probe.due("300", p.x.count(5), 300);
        }
        Probe.due("what was refused is not there", p.x.program(240), -1240);
        Probe.due("empty then", p.x.count(5), 0);
        Probe.due("room again", p.x.feed(0x37202020, 0, 0, 0, 0), 20);
        Probe.due("from its beginning", p.x.program(4), 1);
        Probe.due("the number", p.x.node(0, 2), 7);
    }

    /** The text's last byte counts, the one behind it does not. */
    private static void lengthOfTerms() {
        for (int n : new int[] {1, 2, 19, 20, 21, 239, 240}) {
            Probe p = new Probe();
            p.feed(" ".repeat(n - 1) + "7x" + " ".repeat(40));
            int bytes = p.x.count(5);
            Probe.due("more than there are", p.x.program(bytes + 1), -1);
            Probe.due("below 1", p.x.program(0), -1);
            Probe.due("above 240", p.x.program(241), -1);
            Probe.due("the tape stays", p.x.count(5), bytes);
            Probe.due("a text of " + n, p.x.program(n), 1);
            Probe.due("its number", p.x.node(0, 2), 7);
            p.feed(" ".repeat(n - 1) + "7x");
            Probe.due("a text of " + n + " and one more", p.x.program(n + 1), n == 240 ? -1 : -1000 - n);
            Probe.due("with NONE the tape stays", (p.x.count(5) > 0) == (n == 240));
        }
        Probe p = new Probe();
        p.feed("7" + " ".repeat(19));
        Probe.due("as many as there are", p.x.program(20), 1);
        p.feed("7" + " ".repeat(19));
        Probe.due("one more than there are", p.x.program(21), -1);
        Probe.due("the tape stays", p.x.count(5), 20);
    }

    private static void lengthOfTypes() {
        for (int n : new int[] {1, 2, 19, 20, 21, 99, 100}) {
            Probe p = new Probe();
            p.feed(" ".repeat(n - 1) + "?x" + " ".repeat(40));
            int bytes = p.x.count(5);
            Probe.due("more than there are", p.x.type(bytes + 1), -1);
            Probe.due("below 1", p.x.type(0), -1);
            Probe.due("above 100", p.x.type(101), -1);
            Probe.due("the tape stays", p.x.count(5), bytes);
            Probe.due("a text of " + n, p.x.type(n), 0);
            p.feed(" ".repeat(n - 1) + "?x");
            Probe.due("a text of " + n + " and one more", p.x.type(n + 1), n == 100 ? -1 : -1000 - n);
            Probe.due("with NONE the tape stays", (p.x.count(5) > 0) == (n == 100));
        }
        Probe p = new Probe();
        p.feed("?" + " ".repeat(19));
        Probe.due("one more than there are", p.x.type(21), -1);
        Probe.due("as many as there are", p.x.type(20), 0);
    }

    /** Eleven types, (int > ?) and (? > bool) among them. */
    private static Probe eleven() {
        Probe p = new Probe();
        p.lay("(int > ?)");
        p.lay("(? > bool)");
        for (int i = 2; i < 11; i++) {
            Probe.due("laid", p.lay("bool"), i);
        }
        return p;
    }

    private static void dueOfTypes(Probe p, String last) {
        Probe.due(last + " is the twelfth", p.text(0, 11), last);
        Probe.due("twelve", p.x.count(3), 12);
        Probe.due("no thirteenth by type", p.lay("int"), -2);
        Probe.due("none by meet", last.equals("(int > bool)") ? -3 : p.x.meet(0, 1), -3);
        Probe.due("none by join", last.equals("(? > ?)") ? -3 : p.x.join(0, 1), -3);
        Probe.due("one like it by meet", p.x.meet(11, 11), 11);
        Probe.due("one like it by join", p.x.join(11, 11), 11);
        Probe.due("the least number of like ones", p.x.meet(9, 10), 2);
        Probe.due("still twelve", p.x.count(3), 12);
        Probe.due("the twelfth as it was", p.text(0, 11), last);
        Probe.due("all go", p.x.clear(1), 12);
        for (int i = 0; i < 12; i++) {
            Probe.due("laid again", p.lay("int"), i);
        }
        Probe.due("no thirteenth again", p.lay("int"), -2);
    }

    private static void twelveTypes() {
        Probe byType = eleven();
        Probe.due("by type", byType.lay("int"), 11);
        dueOfTypes(byType, "int");
        Probe byMeet = eleven();
        Probe.due("by meet", byMeet.x.meet(0, 1), 11);
        dueOfTypes(byMeet, "(int > bool)");
        Probe byJoin = eleven();
        Probe.due("by join", byJoin.x.join(0, 1), 11);
        dueOfTypes(byJoin, "(? > ?)");
    }

    private static Probe fifteen() {
        Probe p = new Probe();
        p.lay("int");
        p.lay("?");
        p.lay("bool");
        p.x.coerce(0, 1, 1);
        p.x.coerce(1, 2, 2);
        for (int i = 2; i < 15; i++) {
            Probe.due("laid", p.x.coerce(1, 1, i), i);
        }
        return p;
    }

    private static void dueOfCoercions(Probe p, String last) {
        Probe.due(last + " is the sixteenth", p.text(6, 15), last);
        Probe.due("no seventeenth by coerce", p.x.coerce(0, 1, 1), -3);
        Probe.due("not even a like one", p.x.coerce(1, 1, 1), -3);
        Probe.due("none by then", p.x.then(0, 1), -3);
        Probe.due("still sixteen", p.x.count(4), 16);
        Probe.due("the sixteenth as it was", p.text(6, 15), last);
        Probe.due("all go", p.x.clear(0), 16);
        for (int i = 0; i < 16; i++) {
            Probe.due("laid again", p.x.coerce(1, 1, i), i);
        }
        Probe.due("no seventeenth again", p.x.then(15, 15), -3);
        Probe.due("types and coercions go", p.x.clear(1), 19);
        Probe.due("nothing more goes", p.x.clear(1), 0);
    }

    private static void sixteenCoercions() {
        Probe byCoerce = fifteen();
        Probe.due("by coerce", byCoerce.x.coerce(1, 2, 99), 15);
        dueOfCoercions(byCoerce, "b?99+ n");
        Probe byThen = fifteen();
        Probe.due("by then", byThen.x.then(0, 1), 15);
        dueOfCoercions(byThen, "Xi2+b");
    }

    public static void main(String[] args) {
        tape();
        lengthOfTerms();
        lengthOfTypes();
        twelveTypes();
        sixteenCoercions();
        Probe.end();
    }
}
