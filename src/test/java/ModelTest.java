import java.nio.charset.StandardCharsets;
import java.util.function.IntSupplier;

/** Lays the class beside the Model: programs made by chance and all that is told of them, and calls of all kinds. */
public final class ModelTest {
    private static final int PROGRAMS = 6000;
    private static final int WALKS = 1500;
    private static final int CALLS = 300;

    private GradualCheck x = new GradualCheck();
    private Model m = new Model();
    private StringBuilder story = new StringBuilder();
    private static int checked = 0;
    private static final int[] KINDS = new int[6];

    private int same(String call, IntSupplier due, int got) {
        int want = due.getAsInt();
        if (got != want) {
            Probe.due(story + "; " + call, got, want);
        }
        return got;
    }

    private void feed(String text) {
        byte[] bytes = text.getBytes(StandardCharsets.ISO_8859_1);
        for (int i = 0; i < bytes.length; i += 20) {
            int[] f = new int[5];
            for (int k = 0; k < 20; k++) {
                f[k / 4] = f[k / 4] << 8 | (i + k < bytes.length ? bytes[i + k] & 255 : 0);
            }
            same("feed", () -> m.feed(f), x.feed(f[0], f[1], f[2], f[3], f[4]));
        }
    }

    private int say(String text) {
        story.append(" | ").append(text);
        feed(text);
        return same("program", () -> m.program(text.length()), x.program(text.length()));
    }

    private void texts(int what, int n) {
        for (int i = -1; i <= n; i++) {
            int at = i;
            int length = same("text", () -> m.text(what, at, -1), x.text(what, at, -1));
            for (int k = 0; k <= length; k++) {
                int spot = k;
                same("text " + what + " " + at + " " + k, () -> m.text(what, at, spot), x.text(what, at, spot));
            }
        }
    }

    private void allOfProgram(Gen gen) {
        for (int what = -1; what <= 9; what++) {
            int w = what;
            same("count " + w, () -> m.count(w), x.count(w));
            for (int i = -1; i <= x.count(0); i++) {
                int n = i;
                same("node " + n + " " + w, () -> m.node(n, w), x.node(n, w));
            }
            for (int i = -1; i <= x.count(2); i++) {
                int n = i;
                same("cast " + n + " " + w, () -> m.cast(n, w), x.cast(n, w));
            }
        }
        for (int mode = 0; mode < 3; mode++) {
            runs(gen, mode);
        }
        int[] sizes = {0, x.count(0), x.count(1), x.count(2), x.count(2), x.count(2), 0, x.count(0), x.count(0)};
        for (int what = 1; what < 9; what++) {
            texts(what, sizes[what]);
        }
    }

    private void runs(Gen gen, int mode) {
        for (int what = 0; what < 9; what++) {
            int w = what;
            same("run " + mode + " " + w, () -> m.run(mode, w), x.run(mode, w));
        }
        KINDS[x.run(mode, 0)]++;
        int steps = x.run(mode, 3);
        for (int times = 0; times < 12; times++) {
            int k = times < 3 ? Math.min(1500, steps + times - 1) : gen.below(Math.min(1500, steps + 2));
            for (int what = 0; what < 4; what++) {
                int w = what;
                int spot = Math.max(0, k);
                same("trace " + mode + " " + spot + " " + w, () -> m.trace(mode, spot, w), x.trace(mode, spot, w));
            }
        }
    }

    private void allOfAnnotations(Gen gen) {
        for (int what = -1; what <= 7; what++) {
            int w = what;
            same("sets " + w, () -> m.sets(w), x.sets(w));
        }
        for (int i = -1; i <= x.count(1); i++) {
            int n = i;
            same("tries " + n + " 0", () -> m.tries(n, 0), x.tries(n, 0));
            same("tries " + n + " 1", () -> m.tries(n, 1), x.tries(n, 1));
        }
        for (int times = 0; times < 4 && x.count(1) > 0; times++) {
            int i = gen.below(x.count(1));
            boolean is = gen.below(3) > 0;
            story.append(" | loose ").append(i).append(' ').append(is);
            same("loose", () -> m.loose(i, is), x.loose(i, is));
        }
    }

    private static void programs() {
        for (int seed = 0; seed < PROGRAMS; seed++) {
            Gen gen = new Gen(seed);
            ModelTest t = new ModelTest();
            t.story.append("seed ").append(seed);
            String text = gen.program();
            if (seed % 5 == 0) {
                text = gen.spoilt(text);
            }
            if (t.say(text) > 0) {
                checked++;
                t.allOfProgram(gen);
                t.allOfAnnotations(gen);
                t.allOfProgram(gen);
            }
        }
    }

    private static void spoiltTexts() {
        for (int seed = 0; seed < 40 * PROGRAMS / 10; seed++) {
            Gen gen = new Gen(777000 + seed);
            ModelTest t = new ModelTest();
            t.story.append("spoilt ").append(seed);
            t.say(gen.spoilt(gen.program()));
            String type = gen.spoilt(Model.show(gen.type(7)));
            t.story.append(" | type ").append(type);
            t.feed(type);
            t.same("type", () -> t.m.type(type.length()), t.x.type(type.length()));
        }
    }

    /** Calls of all kinds on one object, with arguments good and bad. */
    private void walk(Gen gen) {
        for (int call = 0; call < CALLS; call++) {
            int a = gen.below(20) - 2;
            int b = gen.below(20) - 2;
            int c = gen.below(12) - 2;
            story.append(' ').append(call).append('.');
            switch (gen.below(24)) {
                case 0, 1: say(gen.below(5) == 0 ? gen.spoilt(gen.program()) : gen.program()); break;
                case 2, 3, 4: {
                    String type = Model.show(gen.type(1 + gen.below(5)));
                    feed(type);
                    same("type", () -> m.type(type.length()), x.type(type.length()));
                    break;
                }
                case 5: same("count", () -> m.count(c), x.count(c)); break;
                case 6: same("node", () -> m.node(a, c), x.node(a, c)); break;
                case 7: same("cast", () -> m.cast(a, c), x.cast(a, c)); break;
                case 8, 9: same("text", () -> m.text(c, a, b), x.text(c, a, b)); break;
                case 10: same("pair", () -> m.pair(a, b, c), x.pair(a, b, c)); break;
                case 11: same("meet", () -> m.meet(a, b), x.meet(a, b)); break;
                case 12: same("join", () -> m.join(a, b), x.join(a, b)); break;
                case 13, 14, 15: same("coerce", () -> m.coerce(a, b, c * 11), x.coerce(a, b, c * 11)); break;
                case 16, 17: same("then", () -> m.then(a, b), x.then(a, b)); break;
                case 18: same("coercion", () -> m.coercion(a, c), x.coercion(a, c)); break;
                case 19: {
                    int what = gen.below(12);
                    if (what < 3) {
                        same("clear", () -> m.clear(what), x.clear(what));
                    }
                    same("run", () -> m.run(a & 3, c), x.run(a & 3, c));
                    break;
                }
                case 20: same("trace", () -> m.trace(a & 3, b * b, c), x.trace(a & 3, b * b, c)); break;
                case 21: same("tries", () -> m.tries(a / 2, c & 1), x.tries(a / 2, c & 1)); break;
                case 22: same("loose", () -> m.loose(a / 2, c > 3), x.loose(a / 2, c > 3)); break;
                default: same("sets", () -> m.sets(c), x.sets(c)); break;
            }
        }
        for (int i = -1; i <= x.count(4); i++) {
            for (int what = -1; what < 8; what++) {
                int s = i;
                int w = what;
                same("coercion", () -> m.coercion(s, w), x.coercion(s, w));
            }
        }
        texts(0, x.count(3));
        texts(6, x.count(4));
    }

    public static void main(String[] args) {
        programs();
        spoiltTexts();
        for (int seed = 0; seed < WALKS; seed++) {
            ModelTest t = new ModelTest();
            t.story.append("walk ").append(seed);
            t.walk(new Gen(99000 + seed));
        }
        System.out.println(checked + " programs checked; runs by kind " + java.util.Arrays.toString(KINDS));
        Probe.due("enough programs can be checked", checked > PROGRAMS / 3);
        Probe.end();
    }
}
