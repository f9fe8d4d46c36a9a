import java.util.ArrayList;
import java.util.List;
import java.util.Random;

/** Texts made by chance from a seed: programs that mostly can be checked, types, and texts with something wrong. */
final class Gen {
    private static final String[] NAMES = {"x", "y", "f", "g", "loop", "abcdef"};

    record Bound(String name, Model.Type type) { }

    final Random random;
    private int nodesLeft;
    private int notesLeft;

    Gen(long seed) {
        random = new Random(seed);
    }

    int below(int n) {
        return random.nextInt(n);
    }

    Model.Type type(int height) {
        int pick = below(10);
        if (height > 1 && pick < 4) {
            return new Model.Fn(type(height - 1), type(height - 1));
        }
        return pick < 7 ? Model.DYN : pick < 9 ? Model.INT : Model.BOOL;
    }

    /** A type consistent with another one, some parts of it hidden or shown. */
    Model.Type near(Model.Type t) {
        int pick = below(8);
        if (pick == 0) {
            return Model.DYN;
        }
        if (t.equals(Model.DYN) && pick < 4) {
            return type(3);
        }
        if (t instanceof Model.Fn f) {
            return new Model.Fn(near(f.a()), near(f.b()));
        }
        return t;
    }

    String program() {
        nodesLeft = 10 + below(45);
        notesLeft = 11;
        String text = below(4) == 0 ? loop() : term(new ArrayList<>(), type(3), 7);
        return text.length() > 240 ? "(fun x int x)" : text;
    }

    /** Calls at the end, round and round, with casts that would pile up. */
    private String loop() {
        String result = Model.show(below(2) == 0 ? Model.DYN : Model.INT);
        String argument = Model.show(below(2) == 0 ? Model.DYN : Model.INT);
        String own = below(3) == 0 ? "?" : "(" + argument + " > " + result + ")";
        String last = new String[] {"0", "n", "true", "(fun y int y)", "(loop 0)"}[below(5)];
        String again = new String[] {"(loop (- n 1))", "(as (loop (- n 1)) ?)", "(as (as (loop (- n 1)) ?) int)",
            "((as loop ?) (- n 1))", "(+ 1 (loop (- n 1)))", "((as loop (int > ?)) (as (- n 1) ?))"}[below(6)];
        String fun = "(rec loop " + own + " (fun n " + argument + " (if (= n 0) " + last + " " + again + ")))";
        return "(" + fun + " " + below(40) + ")";
    }

    private String leaf(List<Bound> names, Model.Type wanted) {
        List<Bound> fit = new ArrayList<>();
        for (Bound b : names) {
            if (Model.consistent(b.type, wanted)) {
                fit.add(b);
            }
        }
        if (!fit.isEmpty() && below(5) > 0) {
            return fit.get(below(fit.size())).name;
        }
        if (wanted instanceof Model.Fn f) {
            return "(fun x " + Model.show(f.a()) + " " + below(10) + ")";
        }
        if (wanted.equals(Model.BOOL) || wanted.equals(Model.DYN) && below(2) == 0) {
            return below(2) == 0 ? "true" : "false";
        }
        return String.valueOf(below(3) == 0 ? below(10000) : below(5));
    }

    String term(List<Bound> names, Model.Type wanted, int deep) {
        nodesLeft--;
        if (deep == 0 || nodesLeft < 8 || notesLeft < 2) {
            return leaf(names, wanted);
        }
        Model.Type w = below(12) == 0 ? type(2) : wanted;
        int pick = below(12);
        if (w instanceof Model.Fn f && pick < 6) {
            notesLeft--;
            return fun(names, near(f.a()), f.b(), deep);
        }
        String name = NAMES[below(NAMES.length)];
        switch (pick) {
            case 0, 1, 2: {
                Model.Type from = type(2);
                Model.Type shown = below(2) == 0 ? Model.DYN : new Model.Fn(near(from), near(w));
                return "(" + term(names, shown, deep - 1) + " " + term(names, from, deep - 1) + ")";
            }
            case 3, 4: {
                notesLeft--;
                Model.Type t = type(3);
                List<Bound> more = new ArrayList<>(names);
                String first = term(names, near(t), deep - 1);
                more.add(0, new Bound(name, t));
                return "(let " + name + " " + Model.show(t) + " " + first + " " + term(more, w, deep - 1) + ")";
            }
            case 5:
                return "(if " + term(names, Model.BOOL, deep - 2 < 0 ? 0 : deep - 2) + " " + term(names, w, deep - 1)
                    + " " + term(names, near(w), deep - 1) + ")";
            case 6, 7:
                notesLeft--;
                return "(as " + term(names, near(w), deep - 1) + " " + Model.show(w) + ")";
            case 8: {
                notesLeft -= 2;
                Model.Fn f = w instanceof Model.Fn g ? g : new Model.Fn(Model.DYN, Model.DYN);
                Model.Type t = near(f);
                List<Bound> more = new ArrayList<>(names);
                more.add(0, new Bound(name, t));
                return "(rec " + name + " " + Model.show(t) + " " + fun(more, near(f.a()), f.b(), deep - 1) + ")";
            }
            default: break;
        }
        if (w.equals(Model.INT) || w.equals(Model.DYN) && pick < 10) {
            return "(" + (below(2) == 0 ? "+ " : "- ") + term(names, Model.INT, deep - 1) + " "
                + term(names, below(2) == 0 ? Model.INT : Model.DYN, deep - 1) + ")";
        }
        if (w.equals(Model.BOOL)) {
            return "(" + (below(2) == 0 ? "< " : "= ") + term(names, Model.INT, deep - 1) + " "
                + term(names, Model.DYN, deep - 1) + ")";
        }
        return leaf(names, w);
    }

    private String fun(List<Bound> names, Model.Type from, Model.Type to, int deep) {
        String name = NAMES[below(NAMES.length)];
        List<Bound> more = new ArrayList<>(names);
        more.add(0, new Bound(name, from));
        return "(fun " + name + " " + Model.show(from) + " " + term(more, near(to), deep - 1) + ")";
    }

    /** A text that something is done to: a sign put in, taken out, changed, blanks, a piece twice. */
    String spoilt(String text) {
        StringBuilder s = new StringBuilder(text);
        String signs = "()?>+-<= azq09{\u0000\u00ff\nA";
        int times = 1 + below(2);
        for (int i = 0; i < times && s.length() > 0; i++) {
            int at = below(s.length());
            switch (below(7)) {
                case 0: s.deleteCharAt(at); break;
                case 1: s.insert(at, signs.charAt(below(signs.length()))); break;
                case 2: s.setCharAt(at, signs.charAt(below(signs.length()))); break;
                case 3: s.insert(at, "   "); break;
                case 4: s.setLength(at); break;
                case 5: s.insert(at, new String[] {"fun", "int", "true", "abcdefg", "10000", " if ", "rec", "(x 1)"}
                    [below(8)]); break;
                default: s.insert(at, s.substring(at, Math.min(s.length(), at + 1 + below(12)))); break;
            }
        }
        return s.length() > 240 ? s.substring(0, 240) : s.length() == 0 ? " " : s.toString();
    }
}
