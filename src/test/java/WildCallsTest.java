import java.util.Random;

/** Rule 7 of LANGUAGE.md: no call throws or fails to end, for any arguments in any state. */
public final class WildCallsTest {
    private static final int[] EDGES = {-2147483648, -2147483647, -9001, -4, -3, -2, -1, 0, 1, 2, 3, 4, 5, 6, 7, 8, 9, 10,
        11, 12, 13, 15, 16, 17, 20, 59, 60, 61, 99, 100, 101, 119, 120, 240, 241, 300, 301, 1499, 1500, 1501, 2999, 3000,
        3001, 65535, 2147483646, 2147483647};

    private final Random random;
    private final Probe p = new Probe();
    private final Gen gen;

    private WildCallsTest(long seed) {
        random = new Random(seed);
        gen = new Gen(seed);
    }

    private int any() {
        return random.nextInt(4) == 0 ? random.nextInt() : EDGES[random.nextInt(EDGES.length)];
    }

    private long call() {
        GradualCheck x = p.x;
        switch (random.nextInt(22)) {
            case 0: return x.feed(any(), any(), any(), any(), any());
            case 1: return x.program(any());
            case 2: return x.type(any());
            case 3: return x.count(any());
            case 4: return x.node(any(), any());
            case 5: return x.cast(any(), any());
            case 6: return x.text(any(), any(), any());
            case 7: return x.pair(any(), any(), any());
            case 8: return x.meet(any(), any());
            case 9: return x.join(any(), any());
            case 10: return x.coerce(any(), any(), any());
            case 11: return x.then(any(), any());
            case 12: return x.coercion(any(), any());
            case 13: return x.clear(any());
            case 14: return x.run(any(), any());
            case 15: return x.trace(any(), any(), any());
            case 16: return x.tries(any(), any());
            case 17: return x.loose(any(), random.nextBoolean());
            case 18: return x.sets(any());
            case 19: return p.say(gen.program());
            case 20: return p.say(gen.spoilt(gen.program()));
            default: return p.lay(Model.show(gen.type(6)));
        }
    }

    public static void main(String[] args) {
        long mixed = 0;
        for (int seed = 0; seed < 2000; seed++) {
            WildCallsTest first = new WildCallsTest(seed);
            WildCallsTest second = new WildCallsTest(seed);
            for (int call = 0; call < 512; call++) {
                long a = first.call();
                long b = second.call();
                if (a != b) {
                    Probe.due("the same calls give the same answers, seed " + seed, a, b);
                }
                mixed = mixed * 31 + a;
            }
        }
        Probe.due("calls were made", mixed != 0);
        Probe.end();
    }
}
