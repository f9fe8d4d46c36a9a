/** Promise 15: clear. */
public final class ClearTest {
    public static void main(String[] args) {
        Probe p = new Probe();
        p.say("(as 1 ?)");
        for (int round = 0; round < 3; round++) {
            Probe.due("type", p.lay("int"), 0);
            Probe.due("type", p.lay("(int > ?)"), 1);
            Probe.due("type", p.lay("?"), 2);
            Probe.due("coercion", p.x.coerce(1, 2, 4), 0);
            Probe.due("coercion", p.x.coerce(0, 2, 5), 1);
            Probe.due("NONE", p.x.clear(2), -1);
            Probe.due("NONE", p.x.clear(-1), -1);
            Probe.due("they are there", p.x.count(3) * 10 + p.x.count(4), 32);
            Probe.due("coercions go", p.x.clear(0), 2);
            Probe.due("types stay", p.x.count(3) * 10 + p.x.count(4), 30);
            Probe.due("none is there", p.x.coercion(0, 0), -1);
            Probe.due("laid again", p.x.coerce(0, 2, 6), 0);
            Probe.due("its text", p.text(6, 0), "ni!");
            Probe.due("both go", p.x.clear(1), 4);
            Probe.due("none is there", p.x.count(3) * 10 + p.x.count(4), 0);
            Probe.due("no pair", p.x.pair(0, 0, 0), -1);
            Probe.due("nothing goes", p.x.clear(0), 0);
            Probe.due("nothing goes", p.x.clear(1), 0);
        }
        Probe.due("the program stays", p.text(8, 0), "(as {0}1 ?)");
        Probe.end();
    }
}
