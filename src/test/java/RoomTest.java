import com.sun.management.ThreadMXBean;
import java.lang.management.ManagementFactory;

/** Rule 12 of LANGUAGE.md: what 512 calls on an object make is small, whichever they are. */
public final class RoomTest {
    /* A row of 7.3 million ints would be 29 million bytes; 600,000 objects at least 9.6 million. */
    private static final long MOST_BYTES = 1_000_000;
    private static final ThreadMXBean THREADS = (ThreadMXBean) ManagementFactory.getThreadMXBean();

    private static final String DEAR = "((rec loop ? (fun n int (if (= n 0) 0 (+ 1 (as (as (loop (- n 1)) ?) int))))) 500)";
    private static final String BROAD = "(((rec f ?(fun x (((?>?)>((?>?)>(?>int)))>(((bool>?)>?)>((?>int)>?)))(fun g ?"
        + "((f (as g ?))(as (as x ?) ((((?>?)>?)>(?>(?>int)))>(((int>?)>(?>int))>bool)))))))"
        + "(as (fun y ? y) ((((bool>bool)>?)>(?>int))>(((?>?)>(?>int))>bool))))(fun y ? y))";

    private static long now() {
        return THREADS.getThreadAllocatedBytes(Thread.currentThread().getId());
    }

    private static byte[] bytes(String text) {
        return text.getBytes(java.nio.charset.StandardCharsets.ISO_8859_1);
    }

    private interface Calls {
        void make(Probe p, int call);
    }

    private static void due(String of, String term, Calls calls) {
        long before = now();
        Probe p = new Probe();
        long made = now() - before;
        Probe.due(of + ": the program", p.say(term) > 0);
        before = now();
        for (int call = 0; call < 512; call++) {
            calls.make(p, call);
        }
        long more = now() - before;
        System.out.println(of + ": " + made + " bytes for the object, " + more + " for 512 calls");
        Probe.due(of + ": the object is small", made < 60_000);
        Probe.due(of + ": calls make little", more < MOST_BYTES);
    }

    public static void main(String[] args) {
        new Probe().say(DEAR);
        now();
        due("runs", DEAR, (p, call) -> p.x.run(call % 3, call % 9));
        due("broad runs", BROAD, (p, call) -> p.x.run(call % 2, call % 9));
        due("traces", DEAR, (p, call) -> p.x.trace(call % 3, 1500 - call, call % 4));
        due("sets", BROAD, (p, call) -> p.x.sets(call % 7));
        due("tries", DEAR, (p, call) -> p.x.tries(call % 4, call % 2));
        due("texts", BROAD, (p, call) -> p.x.text(call % 9, call % 12, call));
        due("loose", BROAD, (p, call) -> p.x.loose(call % 5, call % 3 > 0));
        byte[] dear = bytes(DEAR);
        due("programs", DEAR, (p, call) -> {
            if (call % 8 == 7) {
                p.x.program(dear.length);
            } else {
                int at = call % 8 * 20;
                p.x.feed(four(dear, at), four(dear, at + 4), four(dear, at + 8), four(dear, at + 12), four(dear, at + 16));
            }
        });
        due("beside", DEAR, (p, call) -> {
            switch (call % 8) {
                case 0: p.x.feed(0x283f3e28, 0x696e743e, 0x283f3e28, 0x3f3e3f29, 0x29292920); break;
                case 1: p.x.type(19); break;
                case 2: p.x.feed(0x3f202020, 0, 0, 0, 0); break;
                case 3: p.x.type(1); break;
                case 4: p.x.coerce(0, 1, call % 100); break;
                case 5: p.x.coerce(1, 0, call % 100); break;
                case 6: p.x.then(0, 1); break;
                default: p.x.clear(call / 8 % 2); break;
            }
        });
        Probe.end();
    }

    private static int four(byte[] bytes, int at) {
        int four = 0;
        for (int k = 0; k < 4; k++) {
            four = four << 8 | (at + k < bytes.length ? bytes[at + k] : 32);
        }
        return four;
    }
}
