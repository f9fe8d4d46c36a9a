/**
 * What holds of all programs at once: casts that are safe by their types are never blamed, joined casts come to what
 * piled ones come to, loose ones to what told ones come to, and typed programs bear no casts.
 */
public final class BlameTest {
    private static int blamed = 0;
    private static int compared = 0;

    private static void safeCasts(Probe p, String of) {
        for (int mode = 0; mode < 2; mode++) {
            if (p.x.run(mode, 0) == 4) {
                blamed++;
                int what = p.x.run(mode, 2) > 0 ? 4 : 5;
                Probe.due(of + ": a safe cast is blamed", p.x.cast(p.x.run(mode, 1), what), 0);
            }
        }
    }

    private static void joinedAndPiled(Probe p, String of) {
        if (p.x.run(0, 0) != 0 && p.x.run(1, 0) != 0) {
            compared++;
            Probe.due(of + ": joined and piled", p.run(0), p.run(1));
        }
        Probe.due(of + ": joined take no more frames", p.x.run(0, 4) <= p.x.run(1, 4) || p.x.run(1, 0) == 0);
        Probe.due(of + ": piled are never joined", p.x.run(1, 8), 0);
        Probe.due(of + ": bare has no casts", p.x.run(2, 5) + p.x.run(2, 6) + p.x.run(2, 7) + p.x.run(2, 8), 0);
    }

    private static void values(Probe p, String of) {
        int kind = p.x.run(0, 0);
        if (kind >= 1 && kind <= 3 && p.x.run(2, 0) != 0) {
            Probe.due(of + ": a value is the bare one", p.x.run(2, 0) + " " + p.x.run(2, 1), kind + " " + p.x.run(0, 1));
        }
        Probe.due(of + ": no more than one value", p.x.sets(4) <= 1);
        Probe.due(of + ": all sets are told", p.x.sets(1) + p.x.sets(2) + p.x.sets(3), p.x.sets(0));
    }

    private static void typed(Probe p, String of) {
        if (p.x.node(0, 5) == 1) {
            Probe.due(of + ": typed, no casts", p.x.count(2), 0);
            Probe.due(of + ": all its nodes are typed", p.x.count(8), p.x.count(0));
            Probe.due(of + ": neither blame nor stuck", p.x.run(2, 0) < 4);
        }
    }

    public static void main(String[] args) {
        for (int seed = 0; seed < 20000; seed++) {
            String term = new Gen(31000000L + seed).program();
            Probe p = new Probe();
            if (p.say(term) > 0) {
                safeCasts(p, term);
                joinedAndPiled(p, term);
                values(p, term);
                typed(p, term);
            }
        }
        System.out.println(blamed + " runs with blame, " + compared + " laid beside");
        Probe.due("blame was seen", blamed > 100);
        Probe.end();
    }
}
