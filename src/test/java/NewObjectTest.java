/** Promise 1: a new object. */
public final class NewObjectTest {
    public static void main(String[] args) {
        Probe p = new Probe();
        Probe.due("nodes", p.x.count(0), 1);
        Probe.due("typed nodes", p.x.count(8), 1);
        Probe.due("the tape is empty", p.x.count(5), 0);
        for (int what : new int[] {1, 2, 3, 4, 6, 7}) {
            Probe.due("count " + what, p.x.count(what), 0);
        }
        Probe.due("its term", p.text(7, 0), "0");
        Probe.due("its type", p.text(1, 0), "int");
        Probe.due("its kind", p.x.node(0, 0), 0);
        Probe.due("its value", p.run(0), "1 0 0");
        Probe.due("bare", p.run(2), "1 0 0");
        Probe.due("no type", p.x.pair(0, 0, 0), -1);
        Probe.due("no coercion", p.x.coercion(0, 0), -1);
        Probe.due("NONE", GradualCheck.NONE, -1);
        Probe.end();
    }
}
