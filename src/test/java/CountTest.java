/** Promise 5: count. */
public final class CountTest {
    private static void counts(Probe p, String of, int... want) {
        for (int what = 0; what < want.length; what++) {
            Probe.due(of + ": count " + what, p.x.count(what), want[what]);
        }
    }

    public static void main(String[] args) {
        Probe p = new Probe();
        p.say("((fun x ? (+ x 1)) 2)");
        counts(p, "a call", 6, 1, 2, 0, 0, 0, 0, 4, 2);
        p.say("(let f (int > int) (fun x int x) (f (if (< 1 2) 3 4)))");
        counts(p, "all typed", 11, 2, 0, 0, 0, 0, 0, 0, 11);
        p.say("(if true (fun x int x) (fun x ? 1))");
        counts(p, "an if", 6, 2, 1, 0, 0, 0, 0, 4, 4);
        p.x.loose(0, true);
        counts(p, "the first loose", 6, 2, 1, 0, 0, 0, 1, 4, 2);
        p.x.loose(1, true);
        counts(p, "both loose", 6, 2, 1, 0, 0, 0, 3, 4, 2);
        p.x.loose(0, false);
        counts(p, "the second loose", 6, 2, 1, 0, 0, 0, 2, 4, 4);
        p.lay("int");
        p.lay("?");
        p.x.coerce(0, 1, 0);
        p.feed("abc");
        counts(p, "beside", 6, 2, 1, 2, 1, 20, 2, 4, 4);
        for (int what : new int[] {-2147483648, -1, 9, 10, 2147483647}) {
            Probe.due("count " + what, p.x.count(what), -1);
        }
        Probe.end();
    }
}
