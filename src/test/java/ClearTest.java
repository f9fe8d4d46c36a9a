import java.util.ArrayList;
import java.util.List;

/** Promise 15: clear. */
public final class ClearTest {
    /** All types of height 1 and 2, and functions of these. */
    private static List<String> manyTypes() {
        List<String> low = new ArrayList<>(List.of("?", "int", "bool"));
        for (String from : List.of("?", "int", "bool")) {
            for (String to : List.of("?", "int", "bool")) {
                low.add("(" + from + " > " + to + ")");
            }
        }
        List<String> all = new ArrayList<>(low);
        for (String from : low) {
            for (String to : low) {
                all.add("(" + from + " > " + to + ")");
            }
        }
        return all;
    }

    /** Of what went nothing is left: types that are laid behind it are alike if their texts are, and not else. */
    private static void laidAgain() {
        List<String> all = manyTypes();
        for (int start = 0; start < all.size(); start++) {
            Probe p = new Probe();
            for (int round = 0; round < 4; round++) {
                int step = 5 + 2 * round;
                for (int k = 0; k < 12; k++) {
                    p.lay(all.get((start + k * step) % all.size()));
                }
                Probe.due("twelve go", p.x.clear(1), 12);
                for (int k = 0; k < 12; k++) {
                    p.lay(all.get((start + k % 6 * (step + 1)) % all.size()));
                }
                for (int k = 0; k < 12; k++) {
                    Probe.due("alike", p.x.pair(k, (k + 6) % 12, 4), 1);
                    Probe.due("not alike", p.x.pair(k, (k + 1) % 12, 4), 0);
                }
                Probe.due("twelve go again", p.x.clear(1), 12);
            }
        }
    }

    public static void main(String[] args) {
        laidAgain();
        Probe p = new Probe();
        p.say("(as 1 ?)");
        for (int round = 0; round < 3; round++) {
            Probe.due("type", p.lay("int"), 0);
            Probe.due("type", p.lay("(int > ?)"), 1);
            Probe.due("type", p.lay("?"), 2);
            Probe.due("coercion", p.x.coerce(1, 2, 4), 0);
            Probe.due("coercion", p.x.coerce(0, 2, 5), 1);
            Probe.due("NONE", p.x.clear(2), -1);
            Probe.due("NONE", p.x.clear(-1), -1);
            Probe.due("they are there", p.x.count(3) * 10 + p.x.count(4), 32);
            Probe.due("coercions go", p.x.clear(0), 2);
            Probe.due("types stay", p.x.count(3) * 10 + p.x.count(4), 30);
            Probe.due("none is there", p.x.coercion(0, 0), -1);
            Probe.due("laid again", p.x.coerce(0, 2, 6), 0);
            Probe.due("its text", p.text(6, 0), "ni!");
            Probe.due("both go", p.x.clear(1), 4);
            Probe.due("none is there", p.x.count(3) * 10 + p.x.count(4), 0);
            Probe.due("no pair", p.x.pair(0, 0, 0), -1);
            Probe.due("nothing goes", p.x.clear(0), 0);
            Probe.due("nothing goes", p.x.clear(1), 0);
        }
        Probe.due("the program stays", p.text(8, 0), "(as {0}1 ?)");
        Probe.end();
    }
}
