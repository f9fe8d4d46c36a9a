import java.util.ArrayList;
import java.util.HashMap;
import java.util.HashSet;
import java.util.List;
import java.util.Map;
import java.util.Set;

/**
 * The document told once more, as plainly as Java allows and with nothing of the class in it: trees of records, maps of
 * names, every run from its beginning. ModelTest lays the class beside it.
 */
final class Model {
    // ---- types

    sealed interface Type permits Base, Fn { }

    record Base(char sign) implements Type { }

    record Fn(Type a, Type b) implements Type { }

    static final Type DYN = new Base('?');
    static final Type INT = new Base('i');
    static final Type BOOL = new Base('b');
    static final Type ANY = new Fn(DYN, DYN);

    static int height(Type t) {
        return t instanceof Fn f ? 1 + Math.max(height(f.a), height(f.b)) : 1;
    }

    static int size(Type t) {
        return t instanceof Fn f ? 1 + size(f.a) + size(f.b) : 1;
    }

    static boolean vague(Type t) {
        return t instanceof Fn f ? vague(f.a) || vague(f.b) : t.equals(DYN);
    }

    static Type ground(Type t) {
        return t instanceof Fn ? ANY : t;
    }

    static boolean consistent(Type a, Type b) {
        if (a.equals(DYN) || b.equals(DYN)) {
            return true;
        }
        if (a instanceof Fn f && b instanceof Fn g) {
            return consistent(f.a, g.a) && consistent(f.b, g.b);
        }
        return a.equals(b);
    }

    static boolean precise(Type a, Type b) {
        if (b.equals(DYN)) {
            return true;
        }
        if (a instanceof Fn f && b instanceof Fn g) {
            return precise(f.a, g.a) && precise(f.b, g.b);
        }
        return a.equals(b);
    }

    static boolean positive(Type a, Type b) {
        if (b.equals(DYN)) {
            return true;
        }
        if (a instanceof Fn f && b instanceof Fn g) {
            return negative(g.a, f.a) && positive(f.b, g.b);
        }
        return a.equals(b);
    }

    static boolean negative(Type a, Type b) {
        if (a.equals(DYN)) {
            return true;
        }
        if (b.equals(DYN)) {
            return negative(a, ground(a));
        }
        if (a instanceof Fn f && b instanceof Fn g) {
            return positive(g.a, f.a) && negative(f.b, g.b);
        }
        return a.equals(b);
    }

    static Type meet(Type a, Type b) {
        if (a.equals(DYN)) {
            return b;
        }
        if (b.equals(DYN)) {
            return a;
        }
        return a instanceof Fn f && b instanceof Fn g ? new Fn(meet(f.a, g.a), meet(f.b, g.b)) : a;
    }

    static Type join(Type a, Type b) {
        if (a instanceof Fn f && b instanceof Fn g) {
            return new Fn(join(f.a, g.a), join(f.b, g.b));
        }
        return a.equals(b) ? a : DYN;
    }

    static String show(Type t) {
        if (t instanceof Fn f) {
            return "(" + show(f.a) + " > " + show(f.b) + ")";
        }
        return t.equals(DYN) ? "?" : t.equals(INT) ? "int" : "bool";
    }

    // ---- coercions

    sealed interface Co permits N, Two, Up, Down, X { }

    record N(Type of) implements Co { }

    record Two(Co s, Co t) implements Co { }

    record Up(Co g, Type ground) implements Co { }

    record Down(Type ground, Label p, Co i) implements Co { }

    record X(Type from, Label p, Type to) implements Co { }

    record Label(int number, int side) {
        Label turned() {
            return new Label(number, -side);
        }

        String show() {
            return number + (side > 0 ? "+" : "-");
        }
    }

    static Co of(Type a, Type b, Label p) {
        if (a.equals(DYN) && b.equals(DYN)) {
            return new N(DYN);
        }
        if (b.equals(DYN)) {
            return new Up(of(a, ground(a), p), ground(a));
        }
        if (a.equals(DYN)) {
            return new Down(ground(b), p, of(ground(b), b, p));
        }
        if (a instanceof Fn f && b instanceof Fn g) {
            return new Two(of(g.a, f.a, p.turned()), of(f.b, g.b, p));
        }
        if (!a.equals(b)) {
            throw new IllegalStateException("a cast of types that are not consistent");
        }
        return new N(a);
    }

    static Co then(Co s, Co t) {
        if (s instanceof N n && n.of.equals(DYN)) {
            return t;
        }
        if (s instanceof Down d) {
            return new Down(d.ground, d.p, then(d.i, t));
        }
        if (s instanceof Up u) {
            if (t instanceof N n && n.of.equals(DYN)) {
                return s;
            }
            if (t instanceof Down d) {
                return d.ground.equals(u.ground) ? then(u.g, d.i) : new X(u.ground, d.p, d.ground);
            }
            throw new IllegalStateException("up, then what does not begin at ?");
        }
        if (s instanceof X) {
            return s;
        }
        if (t instanceof X) {
            return t;
        }
        if (t instanceof Up u) {
            return new Up(then(s, u.g), u.ground);
        }
        if (s instanceof Two a && t instanceof Two b) {
            return new Two(then(b.s, a.s), then(a.t, b.t));
        }
        if (s instanceof N && s.equals(t)) {
            return s;
        }
        throw new IllegalStateException("coercions that do not fit");
    }

    static int size(Co c) {
        if (c instanceof Two f) {
            return 1 + size(f.s) + size(f.t);
        }
        return c instanceof Up u ? 1 + size(u.g) : c instanceof Down d ? 1 + size(d.i) : 1;
    }

    static int depth(Co c) {
        if (c instanceof Two f) {
            return 1 + Math.max(depth(f.s), depth(f.t));
        }
        return c instanceof Up u ? depth(u.g) : c instanceof Down d ? depth(d.i) : 1;
    }

    static boolean idle(Co c) {
        return c instanceof N || c instanceof Two f && idle(f.s) && idle(f.t);
    }

    static int labels(Co c) {
        if (c instanceof Two f) {
            return labels(f.s) + labels(f.t);
        }
        return c instanceof Up u ? labels(u.g) : c instanceof Down d ? 1 + labels(d.i) : c instanceof X ? 1 : 0;
    }

    static char letter(Type ground) {
        return ground.equals(INT) ? 'i' : ground.equals(BOOL) ? 'b' : 'f';
    }

    static String show(Co c) {
        if (c instanceof Two f) {
            return "[" + show(f.s) + " " + show(f.t) + "]";
        }
        if (c instanceof Up u) {
            return show(u.g) + letter(u.ground) + "!";
        }
        if (c instanceof Down d) {
            return letter(d.ground) + "?" + d.p.show() + " " + show(d.i);
        }
        return c instanceof X x ? "X" + letter(x.from) + x.p.show() + letter(x.to) : "n";
    }

    // ---- terms

    static final List<String> WORDS = List.of("fun", "let", "rec", "if", "as", "int", "bool", "true", "false");
    static final List<String> HEADS = List.of("fun", "let", "rec", "if", "as", "+", "-", "<", "=");

    static final class Node {
        int id;
        int kind;
        int number = -2;
        String name = "";
        Node whole;
        Node teller;
        int annotation = -1;
        final List<Node> parts = new ArrayList<>();
        Type type;
        Cast cast;
    }

    static final class Cast {
        int number;
        Node whole;
        Node part;
        Type from;
        Type to;
        Co co;
    }

    static final class Fault extends Exception {
        private static final long serialVersionUID = 1L;
        final int answer;

        Fault(int answer) {
            this.answer = answer;
        }
    }

    record Token(String text, int place) {
        boolean word() {
            return !text.isEmpty() && text.charAt(0) >= 'a' && text.charAt(0) <= 'z';
        }

        boolean digits() {
            return !text.isEmpty() && text.charAt(0) >= '0' && text.charAt(0) <= '9';
        }

        boolean name() {
            return word() && !WORDS.contains(text);
        }
    }

    static final class Reader {
        final List<Token> tokens = new ArrayList<>();
        final List<Node> nodes = new ArrayList<>();
        final List<Type> told = new ArrayList<>();
        int next = 0;
        int open = 0;

        Reader(String text) {
            java.util.regex.Matcher m = java.util.regex.Pattern.compile("[a-z]+|[0-9]+|[^ ]",
                java.util.regex.Pattern.DOTALL).matcher(text);
            while (m.find()) {
                tokens.add(new Token(m.group(), m.start()));
            }
            tokens.add(new Token("", text.length()));
        }

        Token token() {
            return tokens.get(next);
        }

        Fault fault(int number) {
            return new Fault(-1000 * number - token().place);
        }

        void eat(String wanted) throws Fault {
            if (!token().text.equals(wanted)) {
                throw fault(1);
            }
            if (wanted.equals("(")) {
                open++;
            }
            if (wanted.equals(")")) {
                open--;
            }
            next++;
        }

        Type type(int inside) throws Fault {
            String t = token().text;
            switch (t) {
                case "?": next++; return DYN;
                case "int": next++; return INT;
                case "bool": next++; return BOOL;
                case "(": break;
                default: throw fault(1);
            }
            if (open == 20) {
                throw fault(6);
            }
            if (inside == 5) {
                throw fault(7);
            }
            eat("(");
            Type a = type(inside + 1);
            eat(">");
            Type b = type(inside + 1);
            eat(")");
            return new Fn(a, b);
        }

        void annotation(Node node) throws Fault {
            if (!Set.of("?", "int", "bool", "(").contains(token().text)) {
                throw fault(1);
            }
            if (told.size() == 12) {
                throw fault(4);
            }
            Type type = type(0);
            node.annotation = told.size();
            node.number = told.size();
            told.add(type);
        }

        void binder(Node node) throws Fault {
            if (!token().name()) {
                throw fault(1);
            }
            if (token().text.length() > 6) {
                throw fault(2);
            }
            node.name = token().text;
            next++;
        }

        Node term(Node whole, Map<String, Node> names, boolean rec) throws Fault {
            Token t = token();
            boolean opens = t.text.equals("(");
            boolean truth = t.text.equals("true") || t.text.equals("false");
            boolean can = rec ? opens : opens || truth || t.name() || t.digits();
            if (!can) {
                throw fault(1);
            }
            if (t.name() && t.text.length() > 6) {
                throw fault(2);
            }
            if (t.digits() && new java.math.BigInteger(t.text).compareTo(java.math.BigInteger.valueOf(9999)) > 0) {
                throw fault(3);
            }
            if (nodes.size() == 60) {
                throw fault(4);
            }
            if (t.name() && !names.containsKey(t.text)) {
                throw fault(5);
            }
            if (opens && open == 20) {
                throw fault(6);
            }
            Node node = new Node();
            node.id = nodes.size();
            node.whole = whole;
            nodes.add(node);
            if (opens) {
                eat("(");
                if (rec && !token().text.equals("fun")) {
                    throw fault(1);
                }
                inside(node, names);
                eat(")");
                return node;
            }
            next++;
            if (t.digits()) {
                node.kind = 0;
                node.number = new java.math.BigInteger(t.text).intValue();
            } else if (truth) {
                node.kind = 1;
                node.number = t.text.equals("true") ? 1 : 0;
            } else {
                node.kind = 2;
                node.teller = names.get(t.text);
                node.number = node.teller.id;
            }
            return node;
        }

        void part(Node node, Map<String, Node> names) throws Fault {
            node.parts.add(term(node, names, node.kind == 5));
        }

        void inside(Node node, Map<String, Node> names) throws Fault {
            int head = HEADS.indexOf(token().text);
            node.kind = head < 0 ? 12 : head + 3;
            if (head >= 0) {
                next++;
            }
            Map<String, Node> more = new HashMap<>(names);
            switch (node.kind) {
                case 3, 5 -> {
                    binder(node);
                    annotation(node);
                    more.put(node.name, node);
                    part(node, more);
                }
                case 4 -> {
                    binder(node);
                    annotation(node);
                    part(node, names);
                    more.put(node.name, node);
                    part(node, more);
                }
                case 6 -> {
                    part(node, names);
                    part(node, names);
                    part(node, names);
                }
                case 7 -> {
                    part(node, names);
                    annotation(node);
                }
                default -> {
                    part(node, names);
                    part(node, names);
                }
            }
        }
    }

    // ---- checking

    static final class CannotBe extends RuntimeException {
        private static final long serialVersionUID = 1L;
        final int node;

        CannotBe(int node) {
            super(null, null, false, false);
            this.node = node;
        }
    }

    static final class Program {
        final List<Node> nodes;
        final List<Type> told;
        List<Type> taken;
        final List<Cast> casts = new ArrayList<>();

        Program(List<Node> nodes, List<Type> told) {
            this.nodes = nodes;
            this.told = told;
            this.taken = told;
        }

        /** The node that can't be, or -1. */
        int check(List<Type> as) {
            taken = as;
            casts.clear();
            for (Node n : nodes) {
                n.cast = null;
                n.type = null;
            }
            try {
                visit(nodes.get(0));
                return -1;
            } catch (CannotBe e) {
                return e.node;
            }
        }

        void visit(Node n) {
            for (Node part : n.parts) {
                visit(part);
            }
            n.type = typed(n);
            if (height(n.type) > 6) {
                throw new CannotBe(n.id);
            }
        }

        Type typed(Node n) {
            Type note = n.annotation >= 0 ? taken.get(n.annotation) : null;
            List<Node> p = n.parts;
            switch (n.kind) {
                case 0: return INT;
                case 1: return BOOL;
                case 2: return taken.get(n.teller.annotation);
                case 3: return new Fn(note, p.get(0).type);
                case 4: put(n, p.get(0), note); return p.get(1).type;
                case 5, 7: put(n, p.get(0), note); return note;
                case 6:
                    put(n, p.get(0), BOOL);
                    if (!consistent(p.get(1).type, p.get(2).type)) {
                        throw new CannotBe(n.id);
                    }
                    Type both = join(p.get(1).type, p.get(2).type);
                    put(n, p.get(1), both);
                    put(n, p.get(2), both);
                    return both;
                case 8, 9: put(n, p.get(0), INT); put(n, p.get(1), INT); return INT;
                case 10, 11: put(n, p.get(0), INT); put(n, p.get(1), INT); return BOOL;
                default: break;
            }
            if (p.get(0).type instanceof Fn f) {
                put(n, p.get(1), f.a);
                return f.b;
            }
            if (!p.get(0).type.equals(DYN)) {
                throw new CannotBe(n.id);
            }
            Type wanted = new Fn(p.get(1).type, DYN);
            if (height(wanted) > 6) {
                throw new CannotBe(n.id);
            }
            put(n, p.get(0), wanted);
            return DYN;
        }

        void put(Node whole, Node part, Type to) {
            if (part.type.equals(to)) {
                return;
            }
            if (!consistent(part.type, to)) {
                throw new CannotBe(whole.id);
            }
            Cast c = new Cast();
            c.number = casts.size();
            c.whole = whole;
            c.part = part;
            c.from = part.type;
            c.to = to;
            c.co = of(c.from, c.to, new Label(c.number, 1));
            part.cast = c;
            casts.add(c);
        }

        boolean typedNode(Node n) {
            if (vague(n.type)) {
                return false;
            }
            for (Node part : n.parts) {
                if (part.cast != null || !typedNode(part)) {
                    return false;
                }
            }
            return true;
        }

        static int span(Node n) {
            int sum = 1;
            for (Node part : n.parts) {
                sum += span(part);
            }
            return sum;
        }

        String show(Node n, boolean casts) {
            List<String> words = new ArrayList<>();
            switch (n.kind) {
                case 0: return String.valueOf(n.number);
                case 1: return n.number == 1 ? "true" : "false";
                case 2: return n.teller.name;
                case 12: break;
                default: words.add(HEADS.get(n.kind - 3)); break;
            }
            if (n.kind <= 5) {
                words.add(n.name);
                words.add(Model.show(taken.get(n.annotation)));
            }
            for (Node part : n.parts) {
                String mark = casts && part.cast != null ? "{" + part.cast.number + "}" : "";
                words.add(mark + show(part, casts));
            }
            if (n.kind == 7) {
                words.add(Model.show(taken.get(n.annotation)));
            }
            return "(" + String.join(" ", words) + ")";
        }
    }

    // ---- the machine

    static final class Value {
        int kind;
        int number;
        Map<Integer, Value[]> names;
        Node fun;
        Co borne;

        Value with(Co co) {
            Value v = new Value();
            v.kind = kind;
            v.number = number;
            v.names = names;
            v.fun = fun;
            v.borne = co;
            return v;
        }
    }

    static Value number(int n) {
        Value v = new Value();
        v.kind = 1;
        v.number = n;
        return v;
    }

    static Value truth(boolean b) {
        Value v = new Value();
        v.kind = 2;
        v.number = b ? 1 : 0;
        return v;
    }

    static final class Frame {
        Co co;
        Node node;
        Map<Integer, Value[]> names;
        Value first;
    }

    static final class Run {
        final int mode;
        final ArrayList<Frame> frames = new ArrayList<>();
        Node begins;
        Map<Integer, Value[]> names = new HashMap<>();
        Value given;
        Label blame;
        Node stuck;
        int steps;
        int mostFrames;
        int mostCasts;
        int mostSize;
        int mostDepth;
        int joins;

        Run(Program program, int mode, int limit) {
            this.mode = mode;
            begins = program.nodes.get(0);
            while (steps < limit && !over()) {
                steps++;
                if (begins != null) {
                    begin();
                } else {
                    take(frames.remove(frames.size() - 1));
                }
                mostFrames = Math.max(mostFrames, frames.size());
                mostCasts = Math.max(mostCasts, casts());
            }
        }

        boolean over() {
            return blame != null || stuck != null || begins == null && frames.isEmpty();
        }

        int casts() {
            int sum = 0;
            for (Frame f : frames) {
                sum += f.co != null ? 1 : 0;
            }
            return sum;
        }

        void give(Value v) {
            given = v;
            begins = null;
        }

        void push(Node node, Value first, Map<Integer, Value[]> names) {
            Frame f = new Frame();
            f.node = node;
            f.first = first;
            f.names = names;
            frames.add(f);
        }

        void seen(Co co) {
            mostSize = Math.max(mostSize, size(co));
            mostDepth = Math.max(mostDepth, depth(co));
        }

        void pushCast(Co co) {
            Frame top = frames.isEmpty() ? null : frames.get(frames.size() - 1);
            if (mode == 0 && top != null && top.co != null) {
                joins++;
                top.co = then(co, top.co);
                seen(top.co);
                return;
            }
            Frame f = new Frame();
            f.co = co;
            frames.add(f);
            seen(co);
        }

        void next(Node part, Map<Integer, Value[]> with) {
            names = with;
            begins = part;
            if (mode != 2 && part.cast != null) {
                pushCast(part.cast.co);
            }
        }

        void begin() {
            Node n = begins;
            switch (n.kind) {
                case 0: give(number(n.number)); break;
                case 1: give(truth(n.number == 1)); break;
                case 2: give(names.get(n.teller.id)[0]); break;
                case 3:
                    Value f = new Value();
                    f.kind = 3;
                    f.number = n.id;
                    f.fun = n;
                    f.names = names;
                    give(f);
                    break;
                case 5:
                    Map<Integer, Value[]> own = new HashMap<>(names);
                    own.put(n.id, new Value[1]);
                    push(n, null, own);
                    next(n.parts.get(0), own);
                    break;
                case 7: next(n.parts.get(0), names); break;
                default:
                    push(n, null, names);
                    next(n.parts.get(0), names);
                    break;
            }
        }

        /** The value with a coercion laid on it; null with blame. */
        Value laid(Value v, Co t) {
            Co co = v.borne == null ? t : then(v.borne, t);
            if (co instanceof X x) {
                blame = x.p;
                return null;
            }
            if (idle(co)) {
                return v.with(null);
            }
            seen(co);
            return v.with(co);
        }

        void take(Frame f) {
            if (f.co != null) {
                Value v = laid(given, f.co);
                if (v != null) {
                    give(v);
                }
                return;
            }
            Node n = f.node;
            if (f.first != null) {
                second(n, f.first);
                return;
            }
            switch (n.kind) {
                case 4:
                    Map<Integer, Value[]> more = new HashMap<>(f.names);
                    more.put(n.id, new Value[] {given});
                    next(n.parts.get(1), more);
                    break;
                case 5: f.names.get(n.id)[0] = given; break;
                case 6:
                    if (given.kind != 2) {
                        stuck = n;
                    } else {
                        next(n.parts.get(given.number == 1 ? 1 : 2), f.names);
                    }
                    break;
                default:
                    push(n, given, f.names);
                    next(n.parts.get(1), f.names);
                    break;
            }
        }

        void second(Node n, Value first) {
            if (n.kind == 12) {
                call(n, first);
                return;
            }
            if (first.kind != 1 || given.kind != 1) {
                stuck = n;
                return;
            }
            if (first.borne != null || given.borne != null) {
                throw new IllegalStateException("a number that bears a coercion is reckoned with");
            }
            int a = first.number;
            int b = given.number;
            give(n.kind == 8 ? number(a + b) : n.kind == 9 ? number(a - b) : truth(n.kind == 10 ? a < b : a == b));
        }

        void call(Node n, Value f) {
            if (f.kind != 3) {
                stuck = n;
                return;
            }
            Value x = given;
            if (f.borne != null) {
                Two two = (Two) f.borne;
                x = laid(x, two.s);
                if (x == null) {
                    return;
                }
                pushCast(two.t);
            }
            Map<Integer, Value[]> more = new HashMap<>(f.names);
            more.put(f.fun.id, new Value[] {x});
            begins = f.fun.parts.get(0);
            names = more;
        }

        int kind() {
            return blame != null ? 4 : stuck != null ? 5 : over() ? given.kind : 0;
        }

        int worth() {
            return blame != null ? blame.number : stuck != null ? stuck.id : over() ? given.number : 0;
        }

        /** What values are compared by; null if it is none. */
        String value() {
            int k = kind();
            return k < 1 || k > 3 ? null : k == 3 ? "function" : k + " " + given.number;
        }

        int tells(int what) {
            switch (what) {
                case 0: return kind();
                case 1: return worth();
                case 2: return blame == null ? 0 : blame.side;
                case 3: return steps;
                case 4: return mostFrames;
                case 5: return mostCasts;
                case 6: return mostSize;
                case 7: return mostDepth;
                default: return joins;
            }
        }
    }

    // ---- the face

    private String tape = "";
    private Program program = zero();
    private int loose = 0;
    private final List<Type> types = new ArrayList<>();
    private final List<Co> coercions = new ArrayList<>();
    private final List<Type> froms = new ArrayList<>();
    private final List<Type> tos = new ArrayList<>();

    private static Program zero() {
        Node n = new Node();
        n.number = 0;
        Program p = new Program(List.of(n), List.of());
        p.check(p.told);
        return p;
    }

    int feed(int... fives) {
        if (tape.length() + 20 > 300) {
            return -1;
        }
        StringBuilder more = new StringBuilder(tape);
        for (int five : fives) {
            for (int k = 3; k >= 0; k--) {
                more.append((char) (five >> 8 * k & 255));
            }
        }
        tape = more.toString();
        return tape.length();
    }

    int program(int n) {
        if (n < 1 || n > 240 || n > tape.length()) {
            return -1;
        }
        Reader reader = new Reader(tape.substring(0, n));
        tape = "";
        try {
            reader.term(null, new HashMap<>(), false);
            reader.eat("");
        } catch (Fault f) {
            return f.answer;
        }
        Program told = new Program(reader.nodes, reader.told);
        int wrong = told.check(told.told);
        if (wrong >= 0) {
            return -9000 - wrong;
        }
        program = told;
        loose = 0;
        return told.nodes.size();
    }

    int type(int n) {
        if (n < 1 || n > 100 || n > tape.length()) {
            return -1;
        }
        Reader reader = new Reader(tape.substring(0, n));
        tape = "";
        Type t;
        try {
            t = reader.type(0);
            reader.eat("");
        } catch (Fault f) {
            return f.answer;
        }
        if (types.size() == 12) {
            return -2;
        }
        types.add(t);
        return types.size() - 1;
    }

    int count(int what) {
        switch (what) {
            case 0: return program.nodes.size();
            case 1: return program.told.size();
            case 2: return program.casts.size();
            case 3: return types.size();
            case 4: return coercions.size();
            case 5: return tape.length();
            case 6: return loose;
            case 7: return program.casts.stream().mapToInt(c -> size(c.co)).sum();
            case 8: return (int) program.nodes.stream().filter(program::typedNode).count();
            default: return -1;
        }
    }

    int node(int i, int what) {
        if (i < 0 || i >= program.nodes.size()) {
            return -1;
        }
        Node n = program.nodes.get(i);
        switch (what) {
            case 0: return n.kind;
            case 1: return n.whole == null ? -2 : n.whole.id;
            case 2: return n.number;
            case 3: return size(n.type);
            case 4: return height(n.type);
            case 5: return program.typedNode(n) ? 1 : 0;
            case 6: return (int) program.casts.stream().filter(c -> c.whole == n).count();
            case 7: return Program.span(n);
            default: return -1;
        }
    }

    int cast(int i, int what) {
        if (i < 0 || i >= program.casts.size()) {
            return -1;
        }
        Cast c = program.casts.get(i);
        switch (what) {
            case 0: return c.whole.id;
            case 1: return c.part.id;
            case 2: return size(c.co);
            case 3: return depth(c.co);
            case 4: return positive(c.from, c.to) ? 1 : 0;
            case 5: return negative(c.from, c.to) ? 1 : 0;
            case 6: return precise(c.from, c.to) ? 1 : precise(c.to, c.from) ? 2 : 0;
            default: return -1;
        }
    }

    /** A whole text, at most 3000 of it; null: no such one. */
    String whole(int what, int i) {
        int[] sizes = {types.size(), program.nodes.size(), program.told.size(), program.casts.size(),
            program.casts.size(), program.casts.size(), coercions.size(), program.nodes.size(), program.nodes.size()};
        if (what < 0 || what > 8 || i < 0 || i >= sizes[what]) {
            return null;
        }
        String all = switch (what) {
            case 0 -> show(types.get(i));
            case 1 -> show(program.nodes.get(i).type);
            case 2 -> show(program.told.get(i));
            case 3 -> show(program.casts.get(i).from);
            case 4 -> show(program.casts.get(i).to);
            case 5 -> show(program.casts.get(i).co);
            case 6 -> show(coercions.get(i));
            default -> program.show(program.nodes.get(i), what == 8);
        };
        return all.length() > 3000 ? all.substring(0, 3000) : all;
    }

    int text(int what, int i, int k) {
        String all = whole(what, i);
        if (all == null || k < -1) {
            return -1;
        }
        return k == -1 ? all.length() : k >= all.length() ? -4 : all.charAt(k);
    }

    private boolean has(int a, int b) {
        return a >= 0 && b >= 0 && a < types.size() && b < types.size();
    }

    int pair(int i, int j, int what) {
        if (!has(i, j) || what < 0 || what > 4) {
            return -1;
        }
        Type a = types.get(i);
        Type b = types.get(j);
        boolean is = switch (what) {
            case 0 -> consistent(a, b);
            case 1 -> precise(a, b);
            case 2 -> positive(a, b);
            case 3 -> negative(a, b);
            default -> a.equals(b);
        };
        return is ? 1 : 0;
    }

    private int likeOrLaid(Type t) {
        int like = types.indexOf(t);
        if (like >= 0) {
            return like;
        }
        if (types.size() == 12) {
            return -3;
        }
        types.add(t);
        return types.size() - 1;
    }

    int meet(int a, int b) {
        if (!has(a, b)) {
            return -1;
        }
        return consistent(types.get(a), types.get(b)) ? likeOrLaid(meet(types.get(a), types.get(b))) : -2;
    }

    int join(int a, int b) {
        return has(a, b) ? likeOrLaid(join(types.get(a), types.get(b))) : -1;
    }

    private int lay(Co co, Type from, Type to) {
        coercions.add(co);
        froms.add(from);
        tos.add(to);
        return coercions.size() - 1;
    }

    int coerce(int a, int b, int p) {
        if (!has(a, b) || p < 0 || p > 99) {
            return -1;
        }
        if (!consistent(types.get(a), types.get(b))) {
            return -2;
        }
        if (coercions.size() == 16) {
            return -3;
        }
        return lay(of(types.get(a), types.get(b), new Label(p, 1)), types.get(a), types.get(b));
    }

    int then(int s, int t) {
        if (s < 0 || t < 0 || s >= coercions.size() || t >= coercions.size()) {
            return -1;
        }
        if (!tos.get(s).equals(froms.get(t))) {
            return -2;
        }
        if (coercions.size() == 16) {
            return -3;
        }
        return lay(then(coercions.get(s), coercions.get(t)), froms.get(s), tos.get(t));
    }

    int coercion(int s, int what) {
        if (s < 0 || s >= coercions.size()) {
            return -1;
        }
        Co c = coercions.get(s);
        switch (what) {
            case 0: return size(c);
            case 1: return depth(c);
            case 2:
                if (c instanceof N n) {
                    return n.of.equals(DYN) ? 0 : 1;
                }
                return c instanceof Two ? 2 : c instanceof Up ? 3 : c instanceof Down ? 4 : 5;
            case 3: return idle(c) ? 1 : 0;
            case 4: return labels(c);
            case 5: return c instanceof X x ? x.p.number : -2;
            case 6: return c instanceof X x ? x.p.side : 0;
            default: return -1;
        }
    }

    int clear(int what) {
        if (what != 0 && what != 1) {
            return -1;
        }
        int went = coercions.size() + (what == 1 ? types.size() : 0);
        coercions.clear();
        froms.clear();
        tos.clear();
        if (what == 1) {
            types.clear();
        }
        return went;
    }

    int run(int mode, int what) {
        if (mode < 0 || mode > 2 || what < 0 || what > 8) {
            return Integer.MIN_VALUE;
        }
        return new Run(program, mode, 1500).tells(what);
    }

    int trace(int mode, int k, int what) {
        if (mode < 0 || mode > 2 || k < 0 || k > 1500 || what < 0 || what > 3) {
            return -1;
        }
        Run r = new Run(program, mode, k);
        switch (what) {
            case 0: return r.frames.size();
            case 1: return r.casts();
            case 2: return r.begins == null ? -2 : r.begins.id;
            default: return r.begins == null ? r.given.kind : -2;
        }
    }

    private List<Type> taken(int bits) {
        List<Type> as = new ArrayList<>(program.told);
        for (int i = 0; i < as.size(); i++) {
            if ((bits >> i & 1) == 1) {
                as.set(i, DYN);
            }
        }
        return as;
    }

    int tries(int i, int what) {
        if (i < 0 || i >= program.told.size() || what < 0 || what > 1) {
            return -1;
        }
        String now = new Run(program, 0, 100).value();
        int can = 0;
        int like = 0;
        Type[] choices = {INT, BOOL, ANY, DYN};
        for (int c = 0; c < 4; c++) {
            List<Type> as = taken(loose);
            as.set(i, choices[c]);
            if (program.check(as) < 0) {
                can |= 1 << c;
                String then = new Run(program, 0, 100).value();
                like |= now != null && now.equals(then) ? 1 << c : 0;
            }
        }
        program.check(taken(loose));
        return what == 0 ? can : like;
    }

    int loose(int i, boolean is) {
        if (i < 0 || i >= program.told.size()) {
            return -1;
        }
        if ((loose >> i & 1) == (is ? 1 : 0)) {
            return -2;
        }
        int wanted = loose ^ 1 << i;
        if (program.check(taken(wanted)) >= 0) {
            program.check(taken(loose));
            return -3;
        }
        loose = wanted;
        return program.casts.size();
    }

    int sets(int what) {
        if (what < 0 || what > 6) {
            return -1;
        }
        int[] sums = new int[7];
        Set<String> values = new HashSet<>();
        List<Integer> casts = new ArrayList<>();
        for (int bits = 0; bits < 1 << Math.min(4, program.told.size()); bits++) {
            if (program.check(taken(bits)) >= 0) {
                continue;
            }
            Run r = new Run(program, 0, 100);
            sums[0]++;
            casts.add(program.casts.size());
            if (r.value() != null) {
                values.add(r.value());
            }
            sums[r.value() != null ? 1 : r.kind() == 4 ? 2 : 3]++;
        }
        program.check(taken(loose));
        sums[4] = values.size();
        sums[5] = casts.stream().mapToInt(c -> c).min().orElse(0);
        sums[6] = casts.stream().mapToInt(c -> c).max().orElse(0);
        return sums[what];
    }
}
