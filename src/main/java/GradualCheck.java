import java.util.Arrays;

/** A gradual checker with blame: types, casts as coercions, and a machine that runs programs. */
public final class GradualCheck {
    public static final int NONE = -1;

    private static final int NO_RUN = -2147483648;
    private static final int MOST_BYTES = 300;
    private static final int MOST_OF_TERM = 240;
    private static final int MOST_OF_TYPE = 100;
    private static final int MOST_NODES = 60;
    private static final int MOST_ANNOTATIONS = 12;
    private static final int MOST_STEPS = 1500;
    private static final int FEW_STEPS = 100;
    private static final int SET_ANNOTATIONS = 4;

    /* The guard of every recursion over types and coercions: a level of a type takes up to four calls. */
    private static final int DEEP = 40;

    /* Types that every pool of types has, by these numbers; (? > ?) is the ground one of functions. */
    private static final int UNKNOWN = 0;
    private static final int INT = 1;
    private static final int BOOL = 2;
    private static final int ANY_FUNCTION = 3;

    /* Kinds of nodes, as the document numbers them. */
    private static final int NUMBER = 0;
    private static final int TRUTH = 1;
    private static final int NAME = 2;
    private static final int FUN = 3;
    private static final int LET = 4;
    private static final int REC = 5;
    private static final int IF = 6;
    private static final int AS = 7;
    private static final int PLUS = 8;
    private static final int MINUS = 9;
    private static final int LESS = 10;
    private static final int EQUAL = 11;
    private static final int CALL = 12;

    /* How many terms a node of each kind has. */
    private static final int[] PARTS = {0, 0, 0, 1, 2, 1, 3, 1, 2, 2, 2, 2, 2};

    /* What a run comes to; the kinds of values are 1 to 3. */
    private static final int STOPPED = 0;
    private static final int A_NUMBER = 1;
    private static final int A_TRUTH = 2;
    private static final int A_FUNCTION = 3;
    private static final int BLAMED = 4;
    private static final int STUCK = 5;

    private final int[] tape;
    private int bytes;
    private final Scanner scanner;
    private final TermReader reader;
    private Check now;
    private Check spare;
    private final Machine machine;
    private final Writer writer;
    private final Beside beside;
    private final int[] tally;
    private final int[] seen;

    public GradualCheck() {
        tape = new int[MOST_BYTES];
        bytes = 0;
        scanner = new Scanner(tape);
        now = new Check();
        spare = new Check();
        reader = new TermReader(scanner, spare);
        machine = new Machine(now);
        writer = new Writer();
        beside = new Beside();
        tally = new int[7];
        seen = new int[2 << SET_ANNOTATIONS];
        now.again();
    }

    public int feed(int a, int b, int c, int d, int e) {
        if (bytes + 20 > MOST_BYTES) {
            return NONE;
        }
        takeFour(a);
        takeFour(b);
        takeFour(c);
        takeFour(d);
        takeFour(e);
        return bytes;
    }

    private void takeFour(int four) {
        for (int shift = 24; shift >= 0; shift -= 8) {
            put(tape, bytes, (four >>> shift) & 255);
            bytes++;
        }
    }

    public int program(int n) {
        if (n < 1 || n > MOST_OF_TERM || n > bytes) {
            return NONE;
        }
        bytes = 0;
        reader.start(spare, n);
        reader.readTerm(NONE, 0, 0, false);
        int fault = reader.end();
        if (fault != 0) {
            return fault;
        }
        spare.asTold();
        int wrong = spare.again();
        if (wrong != NONE) {
            return -9000 - wrong;
        }
        Check before = now;
        now = spare;
        spare = before;
        machine.take(now);
        return now.term.nodes;
    }

    public int type(int n) {
        if (n < 1 || n > MOST_OF_TYPE || n > bytes) {
            return NONE;
        }
        bytes = 0;
        return beside.layText(scanner, n);
    }

    public int count(int what) {
        switch (what) {
            case 0: return now.term.nodes;
            case 1: return now.term.annotations;
            case 2: return now.casts.rows;
            case 3: return beside.typeCount;
            case 4: return beside.coercionCount;
            case 5: return bytes;
            case 6: return now.looseBits;
            case 7: return now.sizeOfCasts();
            case 8: return now.typedNodes();
            default: return NONE;
        }
    }

    public int node(int i, int what) {
        return i < 0 || i >= now.term.nodes ? NONE : now.ofNode(i, what);
    }

    public int cast(int c, int what) {
        return c < 0 || c >= now.casts.rows ? NONE : now.ofCast(c, what);
    }

    public int text(int what, int i, int k) {
        if (k < -1) {
            return NONE;
        }
        writer.start(k);
        if (!writeText(what, i)) {
            return NONE;
        }
        return k == -1 ? writer.length : writer.found;
    }

    /* Whether there is such a text; the writer has it then. */
    private boolean writeText(int what, int i) {
        if (i < 0 || i >= textsOf(what)) {
            return false;
        }
        Types types = now.types;
        Coercions coercions = now.coercions;
        switch (what) {
            case 0: writer.writeType(beside.types, at(beside.typeRow, i), DEEP); break;
            case 1: writer.writeType(types, at(now.nodeType, i), DEEP); break;
            case 2: writer.writeType(types, at(now.term.told, i), DEEP); break;
            case 3: writer.writeType(types, now.casts.get(i, Check.FROM), DEEP); break;
            case 4: writer.writeType(types, now.casts.get(i, Check.TO), DEEP); break;
            case 5: writer.writeCoercion(coercions, now.casts.get(i, Check.COERCION), DEEP); break;
            case 6: writer.writeCoercion(beside.coercions, at(beside.coercionRow, i), DEEP); break;
            case 7: writer.writeTerm(now, i, false, DEEP); break;
            default: writer.writeTerm(now, i, true, DEEP); break;
        }
        return true;
    }

    private int textsOf(int what) {
        switch (what) {
            case 0: return beside.typeCount;
            case 1: return now.term.nodes;
            case 2: return now.term.annotations;
            case 3: return now.casts.rows;
            case 4: return now.casts.rows;
            case 5: return now.casts.rows;
            case 6: return beside.coercionCount;
            case 7: return now.term.nodes;
            case 8: return now.term.nodes;
            default: return 0;
        }
    }

    public int pair(int a, int b, int what) {
        return beside.hasTypes(a, b) ? beside.ofPair(a, b, what) : NONE;
    }

    public int meet(int a, int b) {
        return beside.hasTypes(a, b) ? beside.layMeet(a, b) : NONE;
    }

    public int join(int a, int b) {
        return beside.hasTypes(a, b) ? beside.layJoin(a, b) : NONE;
    }

    public int coerce(int a, int b, int p) {
        return beside.hasTypes(a, b) && p >= 0 && p <= 99 ? beside.layCast(a, b, p) : NONE;
    }

    public int then(int s, int t) {
        return beside.hasCoercion(s) && beside.hasCoercion(t) ? beside.layThen(s, t) : NONE;
    }

    public int coercion(int s, int what) {
        return beside.hasCoercion(s) ? beside.ofCoercion(s, what) : NONE;
    }

    public int clear(int what) {
        if (what == 0) {
            return beside.dropCoercions();
        }
        return what == 1 ? beside.dropCoercions() + beside.dropTypes() : NONE;
    }

    public int run(int mode, int what) {
        if (mode < 0 || mode > 2 || what < 0 || what > 8) {
            return NO_RUN;
        }
        machine.go(mode, MOST_STEPS);
        return machine.ofRun(what);
    }

    public int trace(int mode, int k, int what) {
        if (mode < 0 || mode > 2 || k < 0 || k > MOST_STEPS || what < 0 || what > 3) {
            return NONE;
        }
        machine.go(mode, k);
        return machine.ofMoment(what);
    }

    public int tries(int i, int what) {
        if (i < 0 || i >= now.term.annotations || what < 0 || what > 1) {
            return NONE;
        }
        machine.go(0, FEW_STEPS);
        int kind = machine.outcome();
        int number = machine.unlike();
        int can = 0;
        int alike = 0;
        for (int choice = 0; choice < 4; choice++) {
            now.tryOut(i, choice == 3 ? UNKNOWN : choice + 1);
            if (now.again() == NONE) {
                can |= 1 << choice;
                machine.take(now);
                machine.go(0, FEW_STEPS);
                if (machine.outcome() == kind && machine.unlike() == number) {
                    alike |= 1 << choice;
                }
            }
        }
        now.tryOut(NONE, UNKNOWN);
        now.again();
        machine.take(now);
        if (what == 0) {
            return can;
        }
        return isValue(kind) ? alike : 0;
    }

    public int loose(int i, boolean is) {
        if (i < 0 || i >= now.term.annotations) {
            return NONE;
        }
        int before = now.looseBits;
        if (((before >> i) & 1) == (is ? 1 : 0)) {
            return -2;
        }
        now.looseBits = before ^ (1 << i);
        boolean stands = now.again() == NONE;
        if (!stands) {
            now.looseBits = before;
            now.again();
        }
        machine.take(now);
        return stands ? now.casts.rows : -3;
    }

    public int sets(int what) {
        if (what < 0 || what > 6) {
            return NONE;
        }
        Arrays.fill(tally, 0);
        int before = now.looseBits;
        int all = 1 << Math.min(SET_ANNOTATIONS, now.term.annotations);
        for (int set = 0; set < all; set++) {
            now.looseBits = set;
            if (now.again() == NONE) {
                machine.take(now);
                machine.go(0, FEW_STEPS);
                tallyRun();
            }
        }
        now.looseBits = before;
        now.again();
        machine.take(now);
        return at(tally, what);
    }

    private void tallyRun() {
        int casts = now.casts.rows;
        int kind = machine.outcome();
        put(tally, 5, at(tally, 0) == 0 ? casts : Math.min(casts, at(tally, 5)));
        put(tally, 6, Math.max(casts, at(tally, 6)));
        put(tally, 0, at(tally, 0) + 1);
        if (isValue(kind)) {
            put(tally, 1, at(tally, 1) + 1);
            tallyValue(kind, machine.unlike());
        } else if (kind == BLAMED) {
            put(tally, 2, at(tally, 2) + 1);
        } else {
            put(tally, 3, at(tally, 3) + 1);
        }
    }

    private void tallyValue(int kind, int number) {
        int known = at(tally, 4);
        for (int k = 0; k < known; k++) {
            if (at(seen, 2 * k) == kind && at(seen, 2 * k + 1) == number) {
                return;
            }
        }
        put(seen, 2 * known, kind);
        put(seen, 2 * known + 1, number);
        put(tally, 4, known + 1);
    }

    private static boolean isValue(int kind) {
        return kind >= A_NUMBER && kind <= A_FUNCTION;
    }

    private static int at(int[] row, int i) {
        return i >= 0 && i < row.length ? row[i] : NONE;
    }

    private static void put(int[] row, int i, int value) {
        if (i >= 0 && i < row.length) {
            row[i] = value;
        }
    }

    /** Rows of six ints, one behind another, in an array that grows as they come. */
    private static final class Table {
        private static final int WIDTH = 6;
        private static final int MOST_ROWS = 1 << 17;

        private int[] cells;
        private int rows;

        private Table(int room) {
            cells = new int[Math.max(1, Math.min(room, MOST_ROWS)) * WIDTH];
            rows = 0;
        }

        private int add(int a, int b, int c, int d, int e, int f) {
            int start = rows * WIDTH;
            if (start + WIDTH > cells.length && rows < MOST_ROWS) {
                cells = Arrays.copyOf(cells, 2 * cells.length);
            }
            if (start < 0 || start + WIDTH > cells.length) {
                return NONE;
            }
            cells[start] = a;
            cells[start + 1] = b;
            cells[start + 2] = c;
            cells[start + 3] = d;
            cells[start + 4] = e;
            cells[start + 5] = f;
            rows++;
            return rows - 1;
        }

        private int get(int row, int column) {
            int i = row * WIDTH + column;
            boolean is = row >= 0 && row < rows && column >= 0 && column < WIDTH;
            return is && i >= 0 && i < cells.length ? cells[i] : NONE;
        }

        private void set(int row, int column, int value) {
            int i = row * WIDTH + column;
            boolean is = row >= 0 && row < rows && column >= 0 && column < WIDTH;
            if (is && i >= 0 && i < cells.length) {
                cells[i] = value;
            }
        }

        private void cut(int left) {
            rows = Math.max(0, Math.min(rows, left));
        }

        private boolean begins(int row, int a, int b, int c) {
            int i = row * WIDTH;
            boolean is = row >= 0 && row < rows && i >= 0 && i + 2 < cells.length;
            return is && cells[i] == a && cells[i + 1] == b && cells[i + 2] == c;
        }
    }

    /** Trees, each kept once: like ones have like numbers, so that memory stays small and alike is ==. */
    private static final class Pool {
        private static final int HEAD = 0;
        private static final int LEFT = 1;
        private static final int RIGHT = 2;
        private static final int SIZE = 3;
        private static final int HIGH = 4;
        private static final int NEXT = 5;
        private static final int BUCKETS = 64;

        private final Table trees;
        private final int[] buckets;

        private Pool() {
            trees = new Table(24);
            buckets = new int[BUCKETS];
            Arrays.fill(buckets, NONE);
        }

        private int find(int head, int left, int right) {
            int bucket = bucketOf(head, left, right);
            int newest = at(buckets, bucket);
            int tree = newest;
            for (int steps = 0; tree >= 0 && steps < Table.MOST_ROWS; steps++) {
                if (trees.begins(tree, head, left, right)) {
                    return tree;
                }
                tree = trees.get(tree, NEXT);
            }
            int size = 1 + Math.max(0, trees.get(left, SIZE)) + Math.max(0, trees.get(right, SIZE));
            int high = Math.max(1, trees.get(left, HIGH));
            if (right >= 0) {
                high = 1 + Math.max(high, trees.get(right, HIGH));
            }
            int made = trees.add(head, left, right, size, high, newest);
            if (made >= 0) {
                put(buckets, bucket, made);
            }
            return made;
        }

        private static int bucketOf(int head, int left, int right) {
            int mixed = (head * 31 + left) * 31 + right;
            return (mixed ^ (mixed >>> 7)) & (BUCKETS - 1);
        }

        /* The newest tree always stands first in its bucket, so trees go as they came, backwards. */
        private void cutTo(int left) {
            for (int tree = trees.rows - 1; tree >= left && tree >= 0; tree--) {
                int bucket = bucketOf(trees.get(tree, HEAD), trees.get(tree, LEFT), trees.get(tree, RIGHT));
                put(buckets, bucket, trees.get(tree, NEXT));
            }
            trees.cut(left);
        }
    }

    /** Types, each kept once, with what is told of two of them. */
    private static final class Types {
        private static final int HIGHEST = 6;
        private static final int FULL_FUNCTION = 3;
        private static final int VAGUE_FUNCTION = 4;
        private static final int PRESENT = 4;

        private final Pool pool;
        private final Table trees;

        private Types() {
            pool = new Pool();
            trees = pool.trees;
            pool.find(UNKNOWN, NONE, NONE);
            pool.find(INT, NONE, NONE);
            pool.find(BOOL, NONE, NONE);
            pool.find(VAGUE_FUNCTION, UNKNOWN, UNKNOWN);
        }

        /* NONE, if it would be too high. */
        private int function(int from, int to) {
            int high = Math.max(trees.get(from, Pool.HIGH), trees.get(to, Pool.HIGH));
            if (from < 0 || to < 0 || high >= HIGHEST) {
                return NONE;
            }
            boolean vague = isVague(trees.get(from, Pool.HEAD)) || isVague(trees.get(to, Pool.HEAD));
            return pool.find(vague ? VAGUE_FUNCTION : FULL_FUNCTION, from, to);
        }

        private static boolean isVague(int head) {
            return head == UNKNOWN || head == VAGUE_FUNCTION;
        }

        private boolean hasUnknown(int type) {
            return isVague(trees.get(type, Pool.HEAD));
        }

        private boolean isFunction(int type) {
            return trees.get(type, Pool.HEAD) >= FULL_FUNCTION;
        }

        private int ground(int type) {
            return trees.get(type, Pool.HEAD) >= FULL_FUNCTION ? ANY_FUNCTION : type;
        }

        private int from(int type) {
            return trees.get(type, Pool.LEFT);
        }

        private int to(int type) {
            return trees.get(type, Pool.RIGHT);
        }

        private int size(int type) {
            return trees.get(type, Pool.SIZE);
        }

        private int height(int type) {
            return trees.get(type, Pool.HIGH);
        }

        private boolean consistent(int a, int b, int deep) {
            if (a == UNKNOWN || b == UNKNOWN || a == b) {
                return true;
            }
            return deep > 0 && isFunction(a) && isFunction(b)
                && consistent(from(a), from(b), deep - 1)
                && consistent(to(a), to(b), deep - 1);
        }

        private boolean precise(int a, int b, int deep) {
            if (b == UNKNOWN || a == b) {
                return true;
            }
            return deep > 0 && isFunction(a) && isFunction(b)
                && precise(from(a), from(b), deep - 1)
                && precise(to(a), to(b), deep - 1);
        }

        /* Like ones are so either way: at each end it comes to ?, int or bool beside itself. */
        private boolean positive(int a, int b, int deep) {
            if (b == UNKNOWN || a == b) {
                return true;
            }
            return deep > 0 && isFunction(a) && isFunction(b)
                && negative(from(b), from(a), deep - 1)
                && positive(to(a), to(b), deep - 1);
        }

        private boolean negative(int a, int b, int deep) {
            if (a == UNKNOWN || a == b) {
                return true;
            }
            if (deep <= 0) {
                return false;
            }
            if (b == UNKNOWN) {
                return negative(a, ground(a), deep - 1);
            }
            return isFunction(a) && isFunction(b)
                && positive(from(b), from(a), deep - 1)
                && negative(to(a), to(b), deep - 1);
        }

        /* Of consistent ones alone. */
        private int met(int a, int b, int deep) {
            if (a == UNKNOWN || deep <= 0) {
                return b;
            }
            if (b == UNKNOWN || a == b || !isFunction(a)) {
                return a;
            }
            int from = met(from(a), from(b), deep - 1);
            int to = met(to(a), to(b), deep - 1);
            return function(from, to);
        }

        private int common(int a, int b, int deep) {
            if (a == b) {
                return a;
            }
            if (deep <= 0 || !isFunction(a) || !isFunction(b)) {
                return UNKNOWN;
            }
            int from = common(from(a), from(b), deep - 1);
            int to = common(to(a), to(b), deep - 1);
            return function(from, to);
        }
    }

    /**
     * Coercions in their normal form, each kept once. A head holds the kind, one ground type or two, and the label:
     * its number twice, and one more for its side -.
     */
    private static final class Coercions {
        private static final int N_UNKNOWN = 0;
        private static final int FUNCTION = 3;
        private static final int IDLE_FUNCTION = 4;
        private static final int UP = 5;
        private static final int DOWN = 6;
        private static final int FAIL = 7;
        private static final int PRESENT = 3;

        private final Pool pool;
        private final Table trees;

        /* n of ?, int and bool have the numbers of these types. */
        private Coercions() {
            pool = new Pool();
            trees = pool.trees;
            pool.find(UNKNOWN, NONE, NONE);
            pool.find(INT, NONE, NONE);
            pool.find(BOOL, NONE, NONE);
        }

        private static int headOf(int kind, int ground, int other, int label) {
            return kind | (ground << 3) | (other << 5) | (label << 7);
        }

        private static int functionHead(int first, int second) {
            return isIdle(first & 7) && isIdle(second & 7) ? IDLE_FUNCTION : FUNCTION;
        }

        private static boolean isIdle(int kind) {
            return kind < FUNCTION || kind == IDLE_FUNCTION;
        }

        private int kindOf(int c) {
            return trees.get(c, Pool.HEAD) & 7;
        }

        private int groundOf(int c) {
            return (trees.get(c, Pool.HEAD) >> 3) & 3;
        }

        private int otherGroundOf(int c) {
            return (trees.get(c, Pool.HEAD) >> 5) & 3;
        }

        private int labelOf(int c) {
            return trees.get(c, Pool.HEAD) >> 7;
        }

        private int left(int c) {
            return trees.get(c, Pool.LEFT);
        }

        private int right(int c) {
            return trees.get(c, Pool.RIGHT);
        }

        private int size(int c) {
            return trees.get(c, Pool.SIZE);
        }

        private int depth(int c) {
            return trees.get(c, Pool.HIGH);
        }

        /* Of consistent types alone. */
        private int between(Types types, int a, int b, int label, int deep) {
            if (deep <= 0 || (a == b && a <= BOOL)) {
                return a;
            }
            if (b == UNKNOWN) {
                int ground = types.ground(a);
                int inner = between(types, a, ground, label, deep - 1);
                return pool.find(headOf(UP, ground, 0, 0), inner, NONE);
            }
            if (a == UNKNOWN) {
                int ground = types.ground(b);
                int inner = between(types, ground, b, label, deep - 1);
                return pool.find(headOf(DOWN, ground, 0, label), inner, NONE);
            }
            int s = between(types, types.from(b), types.from(a), label ^ 1, deep - 1);
            int t = between(types, types.to(a), types.to(b), label, deep - 1);
            return pool.find(functionHead(kindOf(s), kindOf(t)), s, t);
        }

        /* S then T; S ends where T begins. */
        private int joined(int s, int t, int deep) {
            int first = kindOf(s);
            int second = kindOf(t);
            if (deep <= 0 || s < 0 || t < 0) {
                return NONE;
            }
            if (first == FAIL || (first == UP && second == N_UNKNOWN)) {
                return s;
            }
            if (first == N_UNKNOWN || (first != DOWN && second == FAIL)) {
                return t;
            }
            if (first == DOWN) {
                return pool.find(trees.get(s, Pool.HEAD), joined(left(s), t, deep - 1), NONE);
            }
            if (first == UP && groundOf(s) == groundOf(t)) {
                return joined(left(s), left(t), deep - 1);
            }
            if (first == UP) {
                return pool.find(headOf(FAIL, groundOf(s), groundOf(t), labelOf(t)), NONE, NONE);
            }
            if (second == UP) {
                return pool.find(trees.get(t, Pool.HEAD), joined(s, left(t), deep - 1), NONE);
            }
            if (first < FUNCTION) {
                return s;
            }
            int from = joined(left(t), left(s), deep - 1);
            int to = joined(right(s), right(t), deep - 1);
            return pool.find(functionHead(kindOf(from), kindOf(to)), from, to);
        }

        private int labels(int c, int deep) {
            if (c < 0 || deep <= 0) {
                return 0;
            }
            int own = kindOf(c) == DOWN || kindOf(c) == FAIL ? 1 : 0;
            return own + labels(left(c), deep - 1) + labels(right(c), deep - 1);
        }
    }

    /** A term: its nodes as they begin, and the types that it tells. */
    private static final class Term {
        private final int[] kind = new int[MOST_NODES];
        private final int[] whole = new int[MOST_NODES];
        private final int[] slot = new int[MOST_NODES];
        private final int[] number = new int[MOST_NODES];
        private final int[] name = new int[MOST_NODES];
        private final int[] span = new int[MOST_NODES];
        private final int[] parts = new int[3 * MOST_NODES];
        private final int[] order = new int[MOST_NODES];
        private final int[] told = new int[MOST_ANNOTATIONS];
        private int nodes;
        private int ended;
        private int annotations;

        private void empty() {
            Arrays.fill(parts, NONE);
            nodes = 0;
            ended = 0;
            annotations = 0;
        }

        private int add(int ofKind, int within, int place, int worth) {
            int node = nodes;
            put(kind, node, ofKind);
            put(whole, node, within);
            put(slot, node, place);
            put(number, node, worth);
            put(name, node, 0);
            if (within >= 0) {
                put(parts, 3 * within + place, node);
            }
            nodes++;
            return node;
        }

        /* Nodes end in the order in which they are checked. */
        private void end(int node) {
            put(span, node, nodes - node);
            put(order, ended, node);
            ended++;
        }

        private void tell(int node, int type) {
            put(number, node, annotations);
            put(told, annotations, type);
            annotations++;
        }

        private int part(int node, int place) {
            return at(parts, 3 * node + place);
        }

        /* The node that tells a name to what stands at a place of a node; the innermost one. */
        private int teller(int letters, int within, int place) {
            int node = within;
            int from = place;
            for (int up = 0; node >= 0 && up < MOST_NODES; up++) {
                int k = at(kind, node);
                boolean tells = k == FUN || k == REC || (k == LET && from == 1);
                if (tells && at(name, node) == letters) {
                    return node;
                }
                from = at(slot, node);
                node = at(whole, node);
            }
            return NONE;
        }
    }

    /** Tokens of the tape, and types, which are read alike in terms and alone. */
    private static final class Scanner {
        private static final int END = -1;
        private static final int OPEN = 40;
        private static final int CLOSE = 41;
        private static final int ARROW = 62;
        private static final int MARK = 63;
        private static final int A_NAME = 300;
        private static final int FUN_WORD = 301;
        private static final int AS_WORD = 305;
        private static final int INT_WORD = 306;
        private static final int BOOL_WORD = 307;
        private static final int TRUE_WORD = 308;
        private static final int FALSE_WORD = 309;
        private static final int DIGITS = 310;
        private static final int LONGEST_NAME = 6;
        private static final int GREATEST = 9999;
        private static final int MOST_OPEN = 20;
        private static final int MOST_OPEN_IN_TYPE = 5;

        /* The words of the language, five bits a letter, as their tokens are numbered. */
        private static final int[] WORDS = {
            (6 << 10) + (21 << 5) + 14, // fun
            (12 << 10) + (5 << 5) + 20, // let
            (18 << 10) + (5 << 5) + 3, // rec
            (9 << 5) + 6, // if
            (1 << 5) + 19, // as
            (9 << 10) + (14 << 5) + 20, // int
            (2 << 15) + (15 << 10) + (15 << 5) + 12, // bool
            (20 << 15) + (18 << 10) + (21 << 5) + 5, // true
            (6 << 20) + (1 << 15) + (12 << 10) + (19 << 5) + 5 // false
        };

        private final int[] bytes;
        private final int[] tokens = new int[MOST_OF_TERM + 1];
        private final int[] places = new int[MOST_OF_TERM + 1];
        private final int[] worths = new int[MOST_OF_TERM + 1];
        private final int[] lengths = new int[MOST_OF_TERM + 1];
        private int read;
        private int now;
        private int fault;

        private Scanner(int[] tape) {
            bytes = tape;
        }

        /* All tokens of the first n bytes are read ahead; the end is one, too. */
        private void start(int n) {
            read = 0;
            now = 0;
            fault = 0;
            int i = 0;
            while (i < n) {
                int sign = at(bytes, i);
                int end = isLetter(sign) ? endOfWord(i, n) : isDigit(sign) ? endOfDigits(i, n) : i + 1;
                if (isLetter(sign)) {
                    addWord(i, end);
                } else if (isDigit(sign)) {
                    addDigits(i, end);
                } else if (sign != 32) {
                    addToken(sign, i, 0, 1);
                }
                i = Math.max(i + 1, end);
            }
            addToken(END, n, 0, 0);
        }

        private static boolean isLetter(int sign) {
            return sign >= 97 && sign <= 122;
        }

        private static boolean isDigit(int sign) {
            return sign >= 48 && sign <= 57;
        }

        private int endOfWord(int from, int n) {
            int i = from + 1;
            while (i < n && isLetter(at(bytes, i))) {
                i++;
            }
            return i;
        }

        private int endOfDigits(int from, int n) {
            int i = from + 1;
            while (i < n && isDigit(at(bytes, i))) {
                i++;
            }
            return i;
        }

        private void addWord(int from, int end) {
            int word = 0;
            for (int i = from; i < end; i++) {
                word = (word << 5) + at(bytes, i) - 96;
            }
            int kind = A_NAME;
            for (int w = 0; w < WORDS.length && end - from <= LONGEST_NAME; w++) {
                if (at(WORDS, w) == word) {
                    kind = FUN_WORD + w;
                }
            }
            addToken(kind, from, word, end - from);
        }

        /* A number too great stays too great, however many digits follow. */
        private void addDigits(int from, int end) {
            int number = 0;
            for (int i = from; i < end; i++) {
                number = Math.min(GREATEST + 1, number * 10 + at(bytes, i) - 48);
            }
            addToken(DIGITS, from, number, end - from);
        }

        private void addToken(int kind, int where, int value, int length) {
            put(tokens, read, kind);
            put(places, read, where);
            put(worths, read, value);
            put(lengths, read, length);
            read++;
        }

        private int token() {
            return now >= 0 && now < read && now < tokens.length ? tokens[now] : END;
        }

        private int worth() {
            return at(worths, now);
        }

        private int letters() {
            return at(lengths, now);
        }

        private void advance() {
            now++;
        }

        private boolean refuse(int number) {
            int place = now >= 0 && now < places.length ? places[now] : 0;
            fault = -1000 * number - place;
            return false;
        }

        private boolean takes(int wanted) {
            if (token() != wanted) {
                return refuse(1);
            }
            advance();
            return true;
        }

        private boolean beginsType() {
            int first = token();
            return first == MARK || first == INT_WORD || first == BOOL_WORD || first == OPEN;
        }

        /* NONE with a fault; open counts all ( that are open, inside those of this type. */
        private int readType(Types types, int open, int inside) {
            if (!beginsType()) {
                refuse(1);
                return NONE;
            }
            if (token() != OPEN) {
                int simple = token() == MARK ? UNKNOWN : token() == INT_WORD ? INT : BOOL;
                advance();
                return simple;
            }
            if (open >= MOST_OPEN || inside >= MOST_OPEN_IN_TYPE) {
                refuse(open >= MOST_OPEN ? 6 : 7);
                return NONE;
            }
            advance();
            int from = readType(types, open + 1, inside + 1);
            if (from < 0 || !takes(ARROW)) {
                return NONE;
            }
            int to = readType(types, open + 1, inside + 1);
            if (to < 0 || !takes(CLOSE)) {
                return NONE;
            }
            return types.function(from, to);
        }
    }

    /** Terms of the tape. */
    private static final class TermReader {
        private final Scanner scan;
        private Term term;
        private Types types;

        private TermReader(Scanner scanner, Check first) {
            scan = scanner;
            term = first.term;
            types = first.types;
        }

        private void start(Check into, int n) {
            term = into.term;
            types = into.types;
            term.empty();
            types.pool.cutTo(Types.PRESENT);
            scan.start(n);
        }

        /* The fault, 0 without one; behind the term nothing more may stand. */
        private int end() {
            if (scan.fault == 0 && scan.token() != Scanner.END) {
                scan.refuse(1);
            }
            return scan.fault;
        }

        private boolean readTerm(int whole, int slot, int open, boolean wantsFun) {
            int wrong = faultHere(whole, slot, open, wantsFun);
            if (wrong != 0) {
                return scan.refuse(wrong);
            }
            if (scan.token() != Scanner.OPEN) {
                term.end(addLeaf(whole, slot));
                scan.advance();
                return true;
            }
            int node = term.add(CALL, whole, slot, -2);
            scan.advance();
            if (wantsFun && scan.token() != Scanner.FUN_WORD) {
                return scan.refuse(1);
            }
            if (!readInside(node, open + 1) || !scan.takes(Scanner.CLOSE)) {
                return false;
            }
            term.end(node);
            return true;
        }

        /* What is wrong with the token as a term's first one, the least number first; 0 if nothing is. */
        private int faultHere(int whole, int slot, int open, boolean wantsFun) {
            boolean name = scan.token() == Scanner.A_NAME;
            boolean digits = scan.token() == Scanner.DIGITS;
            boolean truth = scan.token() == Scanner.TRUE_WORD || scan.token() == Scanner.FALSE_WORD;
            boolean opens = scan.token() == Scanner.OPEN;
            if (wantsFun ? !opens : !(name || digits || truth || opens)) {
                return 1;
            }
            if (name && scan.letters() > Scanner.LONGEST_NAME) {
                return 2;
            }
            if (digits && scan.worth() > Scanner.GREATEST) {
                return 3;
            }
            if (term.nodes >= MOST_NODES) {
                return 4;
            }
            if (name && term.teller(scan.worth(), whole, slot) < 0) {
                return 5;
            }
            return opens && open >= Scanner.MOST_OPEN ? 6 : 0;
        }

        private int addLeaf(int whole, int slot) {
            if (scan.token() == Scanner.DIGITS) {
                return term.add(NUMBER, whole, slot, scan.worth());
            }
            if (scan.token() == Scanner.A_NAME) {
                return term.add(NAME, whole, slot, term.teller(scan.worth(), whole, slot));
            }
            return term.add(TRUTH, whole, slot, scan.token() == Scanner.TRUE_WORD ? 1 : 0);
        }

        private boolean readInside(int node, int open) {
            int kind = kindHere();
            put(term.kind, node, kind);
            if (kind != CALL) {
                scan.advance();
            }
            boolean binds = kind == FUN || kind == LET || kind == REC;
            if (binds && !(readBinder(node) && readAnnotation(node, open))) {
                return false;
            }
            for (int slot = 0; slot < at(PARTS, kind); slot++) {
                if (!readTerm(node, slot, open, kind == REC)) {
                    return false;
                }
            }
            return kind != AS || readAnnotation(node, open);
        }

        private int kindHere() {
            switch (scan.token()) {
                case 43: return PLUS;
                case 45: return MINUS;
                case 60: return LESS;
                case 61: return EQUAL;
                default: break;
            }
            boolean word = scan.token() >= Scanner.FUN_WORD && scan.token() <= Scanner.AS_WORD;
            return word ? FUN + scan.token() - Scanner.FUN_WORD : CALL;
        }

        private boolean readBinder(int node) {
            if (scan.token() != Scanner.A_NAME) {
                return scan.refuse(1);
            }
            if (scan.letters() > Scanner.LONGEST_NAME) {
                return scan.refuse(2);
            }
            put(term.name, node, scan.worth());
            scan.advance();
            return true;
        }

        private boolean readAnnotation(int node, int open) {
            if (!scan.beginsType()) {
                return scan.refuse(1);
            }
            if (term.annotations >= MOST_ANNOTATIONS) {
                return scan.refuse(4);
            }
            int type = scan.readType(types, open, 0);
            if (type < 0) {
                return false;
            }
            term.tell(node, type);
            return true;
        }
    }

    /** A term with its types and casts, as its annotations are now. */
    private static final class Check {
        private static final int WHOLE = 0;
        private static final int PART = 1;
        private static final int FROM = 2;
        private static final int TO = 3;
        private static final int COERCION = 4;

        private final Term term;
        private final Types types;
        private final Coercions coercions;
        private final Table casts;
        private final int[] nodeType;
        private final int[] castOn;
        private final boolean[] typed;
        private int toldTypes;
        private int ownCoercions;
        private int looseBits;
        private int tried;
        private int triedType;

        private Check() {
            term = new Term();
            types = new Types();
            coercions = new Coercions();
            casts = new Table(16);
            nodeType = new int[MOST_NODES];
            castOn = new int[MOST_NODES];
            typed = new boolean[MOST_NODES];
            term.empty();
            term.end(term.add(NUMBER, NONE, 0, 0));
            asTold();
        }

        private void asTold() {
            toldTypes = types.trees.rows;
            looseBits = 0;
            tried = NONE;
            triedType = UNKNOWN;
        }

        /* An annotation is taken as another type, until it is asked for NONE. */
        private void tryOut(int i, int type) {
            tried = i;
            triedType = type;
        }

        /* The first node that can't be, NONE if all can; what a failed one leaves is checked anew by the caller. */
        private int again() {
            types.pool.cutTo(toldTypes);
            coercions.pool.cutTo(Coercions.PRESENT);
            casts.cut(0);
            Arrays.fill(castOn, NONE);
            for (int k = 0; k < term.nodes; k++) {
                int node = at(term.order, k);
                int type = typeOf(node);
                if (type < 0) {
                    return node;
                }
                put(nodeType, node, type);
                setTyped(node, type);
            }
            ownCoercions = coercions.trees.rows;
            return NONE;
        }

        private void setTyped(int node, int type) {
            boolean is = !types.hasUnknown(type);
            for (int slot = 0; slot < 3; slot++) {
                int part = term.part(node, slot);
                if (part >= 0 && (!isTyped(part) || at(castOn, part) >= 0)) {
                    is = false;
                }
            }
            if (node >= 0 && node < typed.length) {
                typed[node] = is;
            }
        }

        private boolean isTyped(int node) {
            return node >= 0 && node < typed.length && typed[node];
        }

        private int annotation(int i) {
            if (i == tried) {
                return triedType;
            }
            return ((looseBits >> i) & 1) == 1 ? UNKNOWN : at(term.told, i);
        }

        /* A node's type, its casts put in; NONE if it can't be. */
        private int typeOf(int node) {
            int number = at(term.number, node);
            int first = term.part(node, 0);
            int second = term.part(node, 1);
            switch (at(term.kind, node)) {
                case NUMBER: return INT;
                case TRUTH: return BOOL;
                case NAME: return annotation(at(term.number, number));
                case FUN: return types.function(annotation(number), at(nodeType, first));
                case LET: return fits(node, first, annotation(number)) ? at(nodeType, second) : NONE;
                case REC: return fits(node, first, annotation(number)) ? annotation(number) : NONE;
                case AS: return fits(node, first, annotation(number)) ? annotation(number) : NONE;
                case IF: return typeOfIf(node, second, term.part(node, 2));
                case PLUS: return fits(node, first, INT) && fits(node, second, INT) ? INT : NONE;
                case MINUS: return fits(node, first, INT) && fits(node, second, INT) ? INT : NONE;
                case LESS: return fits(node, first, INT) && fits(node, second, INT) ? BOOL : NONE;
                case EQUAL: return fits(node, first, INT) && fits(node, second, INT) ? BOOL : NONE;
                default: return typeOfCall(node, first, second);
            }
        }

        private int typeOfIf(int node, int yes, int no) {
            int a = at(nodeType, yes);
            int b = at(nodeType, no);
            if (!fits(node, term.part(node, 0), BOOL) || !types.consistent(a, b, DEEP)) {
                return NONE;
            }
            int both = types.common(a, b, DEEP);
            return fits(node, yes, both) && fits(node, no, both) ? both : NONE;
        }

        private int typeOfCall(int node, int called, int argument) {
            int function = at(nodeType, called);
            if (types.isFunction(function)) {
                int from = types.from(function);
                return fits(node, argument, from) ? types.to(function) : NONE;
            }
            if (function != UNKNOWN) {
                return NONE;
            }
            int wanted = types.function(at(nodeType, argument), UNKNOWN);
            return wanted >= 0 && fits(node, called, wanted) ? UNKNOWN : NONE;
        }

        /* Whether a part can be of a type; a cast is put on it where its own is another one. */
        private boolean fits(int node, int part, int wanted) {
            int own = at(nodeType, part);
            if (own == wanted) {
                return true;
            }
            if (own < 0 || wanted < 0 || !types.consistent(own, wanted, DEEP)) {
                return false;
            }
            int coercion = coercions.between(types, own, wanted, 2 * casts.rows, DEEP);
            put(castOn, part, casts.add(node, part, own, wanted, coercion, 0));
            return true;
        }

        private int castsOnParts(int node) {
            int count = 0;
            for (int slot = 0; slot < 3; slot++) {
                int part = term.part(node, slot);
                if (part >= 0 && at(castOn, part) >= 0) {
                    count++;
                }
            }
            return count;
        }

        private int sizeOfCasts() {
            int sum = 0;
            for (int c = 0; c < casts.rows; c++) {
                sum += coercions.size(casts.get(c, COERCION));
            }
            return sum;
        }

        private int typedNodes() {
            int count = 0;
            for (int node = 0; node < term.nodes; node++) {
                if (isTyped(node)) {
                    count++;
                }
            }
            return count;
        }

        private int ofNode(int i, int what) {
            int whole = at(term.whole, i);
            switch (what) {
                case 0: return at(term.kind, i);
                case 1: return whole < 0 ? -2 : whole;
                case 2: return at(term.number, i);
                case 3: return types.size(at(nodeType, i));
                case 4: return types.height(at(nodeType, i));
                case 5: return isTyped(i) ? 1 : 0;
                case 6: return castsOnParts(i);
                case 7: return at(term.span, i);
                default: return NONE;
            }
        }

        private int ofCast(int c, int what) {
            int from = casts.get(c, FROM);
            int to = casts.get(c, TO);
            switch (what) {
                case 0: return casts.get(c, WHOLE);
                case 1: return casts.get(c, PART);
                case 2: return coercions.size(casts.get(c, COERCION));
                case 3: return coercions.depth(casts.get(c, COERCION));
                case 4: return types.positive(from, to, DEEP) ? 1 : 0;
                case 5: return types.negative(from, to, DEEP) ? 1 : 0;
                case 6: return types.precise(from, to, DEEP) ? 1 : types.precise(to, from, DEEP) ? 2 : 0;
                default: return NONE;
            }
        }
    }

    /** The machine. A run that stands is gone on with, as long as it is not asked for a moment behind it. */
    private static final class Machine {
        private static final int NO_MODE = -1;
        private static final int JOINING = 0;
        private static final int BARE = 2;

        private static final int BEGINS = 0;
        private static final int GIVES = 1;
        private static final int BLAMES = 2;
        private static final int STICKS = 3;

        /* Frames: kind; node, of a cast its coercion; what names are, or the first value's names; that value. */
        private static final int A_CAST = 0;
        private static final int A_FIRST = 1;
        private static final int A_SECOND = 2;

        /* Cells, what one name is: the node that tells it, its value's kind, number, names, coercion; the next cell. */
        private static final int CELL_KIND = 1;
        private static final int CELL_NEXT = 5;

        private final Table frames = new Table(16);
        private final Table cells = new Table(16);
        private Check check;
        private int mode;
        private int state;
        private int node;
        private int names;
        private int kind;
        private int number;
        private int home;
        private int borne;
        private int label;
        private int steps;
        private int casts;
        private int mostFrames;
        private int mostCasts;
        private int mostSize;
        private int mostDepth;
        private int joins;

        private Machine(Check first) {
            check = first;
            mode = NO_MODE;
        }

        private void take(Check other) {
            check = other;
            mode = NO_MODE;
        }

        private void go(int wanted, int limit) {
            if (wanted != mode || steps > limit) {
                restart(wanted);
            }
            while (steps < limit && !rests()) {
                steps++;
                int top = frames.rows - 1;
                if (state == BEGINS) {
                    begin();
                } else if (frames.get(top, 0) == A_CAST) {
                    givenCast(top);
                } else if (frames.get(top, 0) == A_FIRST) {
                    givenFirst(top);
                } else {
                    givenSecond(top);
                }
                mostFrames = Math.max(mostFrames, frames.rows);
                mostCasts = Math.max(mostCasts, casts);
            }
        }

        private void restart(int wanted) {
            mode = wanted;
            check.coercions.pool.cutTo(check.ownCoercions);
            frames.cut(0);
            cells.cut(0);
            state = BEGINS;
            node = 0;
            names = NONE;
            kind = NONE;
            borne = NONE;
            label = 0;
            steps = 0;
            casts = 0;
            mostFrames = 0;
            mostCasts = 0;
            mostSize = 0;
            mostDepth = 0;
            joins = 0;
        }

        private boolean rests() {
            return state == BLAMES || state == STICKS || (state == GIVES && frames.rows == 0);
        }

        private void begin() {
            int own = at(check.term.number, node);
            int begun = node;
            switch (at(check.term.kind, node)) {
                case NUMBER: give(A_NUMBER, own, NONE); break;
                case TRUTH: give(A_TRUTH, own, NONE); break;
                case NAME: giveName(own); break;
                case FUN: give(A_FUNCTION, node, names); break;
                case AS: beginPart(begun, 0); break;
                case REC:
                    names = cells.add(begun, NONE, 0, NONE, NONE, names);
                    frames.add(A_FIRST, begun, names, 0, 0, NONE);
                    beginPart(begun, 0);
                    break;
                default:
                    frames.add(A_FIRST, begun, names, 0, 0, NONE);
                    beginPart(begun, 0);
                    break;
            }
        }

        private void give(int ofKind, int worth, int itsNames) {
            kind = ofKind;
            number = worth;
            home = itsNames;
            borne = NONE;
            state = GIVES;
        }

        private void giveName(int teller) {
            int cell = names;
            for (int up = 0; up < cells.rows && cell >= 0 && cells.get(cell, 0) != teller; up++) {
                cell = cells.get(cell, CELL_NEXT);
            }
            give(cells.get(cell, CELL_KIND), cells.get(cell, CELL_KIND + 1), cells.get(cell, CELL_KIND + 2));
            borne = cells.get(cell, CELL_KIND + 3);
        }

        private void beginPart(int whole, int slot) {
            node = check.term.part(whole, slot);
            state = BEGINS;
            int cast = at(check.castOn, node);
            if (cast >= 0 && mode != BARE) {
                putCast(check.casts.get(cast, Check.COERCION));
            }
        }

        private void putCast(int coercion) {
            int top = frames.rows - 1;
            int lies = coercion;
            if (mode == JOINING && frames.get(top, 0) == A_CAST) {
                lies = check.coercions.joined(coercion, frames.get(top, 1), DEEP);
                frames.set(top, 1, lies);
                joins++;
            } else {
                frames.add(A_CAST, coercion, NONE, 0, 0, NONE);
                casts++;
            }
            measure(lies);
        }

        private void measure(int coercion) {
            mostSize = Math.max(mostSize, check.coercions.size(coercion));
            mostDepth = Math.max(mostDepth, check.coercions.depth(coercion));
        }

        private void givenCast(int top) {
            int coercion = frames.get(top, 1);
            frames.cut(top);
            casts--;
            lay(coercion);
        }

        private void lay(int coercion) {
            Coercions all = check.coercions;
            int whole = borne < 0 ? coercion : all.joined(borne, coercion, DEEP);
            if (all.kindOf(whole) == Coercions.FAIL) {
                label = all.labelOf(whole);
                state = BLAMES;
                return;
            }
            borne = Coercions.isIdle(all.kindOf(whole)) ? NONE : whole;
            if (borne >= 0) {
                measure(borne);
            }
        }

        private void givenFirst(int top) {
            int of = frames.get(top, 1);
            int itsNames = frames.get(top, 2);
            frames.cut(top);
            names = itsNames;
            switch (at(check.term.kind, of)) {
                case LET:
                    names = cells.add(of, kind, number, home, borne, itsNames);
                    beginPart(of, 1);
                    break;
                case REC:
                    cells.set(itsNames, CELL_KIND, kind);
                    cells.set(itsNames, CELL_KIND + 1, number);
                    cells.set(itsNames, CELL_KIND + 2, home);
                    cells.set(itsNames, CELL_KIND + 3, borne);
                    break;
                case IF:
                    if (kind == A_TRUTH) {
                        beginPart(of, number == 1 ? 1 : 2);
                    } else {
                        stick(of);
                    }
                    break;
                default:
                    frames.add(A_SECOND, of, home, kind, number, borne);
                    beginPart(of, 1);
                    break;
            }
        }

        private void stick(int where) {
            node = where;
            state = STICKS;
        }

        private void givenSecond(int top) {
            int of = frames.get(top, 1);
            int firstNames = frames.get(top, 2);
            int firstKind = frames.get(top, 3);
            int first = frames.get(top, 4);
            int firstBorne = frames.get(top, 5);
            frames.cut(top);
            int operation = at(check.term.kind, of);
            if (operation == CALL && firstKind == A_FUNCTION) {
                enter(first, firstNames, firstBorne);
            } else if (operation == CALL || firstKind != A_NUMBER || kind != A_NUMBER) {
                stick(of);
            } else {
                reckon(operation, first);
            }
        }

        private void reckon(int operation, int first) {
            switch (operation) {
                case PLUS: give(A_NUMBER, first + number, NONE); break;
                case MINUS: give(A_NUMBER, first - number, NONE); break;
                case LESS: give(A_TRUTH, first < number ? 1 : 0, NONE); break;
                default: give(A_TRUTH, first == number ? 1 : 0, NONE); break;
            }
        }

        private void enter(int function, int itsNames, int coercion) {
            if (coercion >= 0) {
                lay(check.coercions.left(coercion));
                if (state == BLAMES) {
                    return;
                }
                putCast(check.coercions.right(coercion));
            }
            names = cells.add(function, kind, number, home, borne, itsNames);
            node = check.term.part(function, 0);
            state = BEGINS;
        }

        private int outcome() {
            if (state == BLAMES) {
                return BLAMED;
            }
            if (state == STICKS) {
                return STUCK;
            }
            return state == GIVES && frames.rows == 0 ? kind : STOPPED;
        }

        /* Functions are alike where values are compared. */
        private int unlike() {
            return outcome() == A_FUNCTION ? 0 : outcomeNumber();
        }

        private int outcomeNumber() {
            switch (outcome()) {
                case STOPPED: return 0;
                case BLAMED: return label >> 1;
                case STUCK: return node;
                default: return number;
            }
        }

        private int side() {
            if (state != BLAMES) {
                return 0;
            }
            return (label & 1) == 0 ? 1 : -1;
        }

        private int ofRun(int what) {
            switch (what) {
                case 0: return outcome();
                case 1: return outcomeNumber();
                case 2: return side();
                case 3: return steps;
                case 4: return mostFrames;
                case 5: return mostCasts;
                case 6: return mostSize;
                case 7: return mostDepth;
                default: return joins;
            }
        }

        private int ofMoment(int what) {
            switch (what) {
                case 0: return frames.rows;
                case 1: return casts;
                case 2: return state == BEGINS ? node : -2;
                default: return state == BEGINS ? -2 : kind;
            }
        }
    }

    /** Texts: counts their bytes, and keeps the one that is asked for, so that no row is needed. */
    private static final class Writer {
        private static final int LONGEST = 3000;

        private int wanted;
        private int length;
        private int found;

        private void start(int k) {
            wanted = k;
            length = 0;
            found = -4;
        }

        private void sign(int c) {
            if (length >= LONGEST) {
                return;
            }
            if (length == wanted) {
                found = c;
            }
            length++;
        }

        private void word(String letters) {
            for (int i = 0; i < letters.length(); i++) {
                sign(letters.charAt(i));
            }
        }

        private void digits(int number) {
            int power = 1000;
            while (power > 1 && number < power) {
                power /= 10;
            }
            while (power > 0) {
                sign(48 + number / power % 10);
                power /= 10;
            }
        }

        private void writeType(Types types, int type, int deep) {
            if (deep <= 0) {
                return;
            }
            if (type == UNKNOWN) {
                sign('?');
            } else if (type == INT) {
                word("int");
            } else if (type == BOOL) {
                word("bool");
            } else {
                sign('(');
                writeType(types, types.from(type), deep - 1);
                word(" > ");
                writeType(types, types.to(type), deep - 1);
                sign(')');
            }
        }

        private void writeCoercion(Coercions all, int c, int deep) {
            if (deep <= 0) {
                return;
            }
            switch (all.kindOf(c)) {
                case Coercions.UP:
                    writeCoercion(all, all.left(c), deep - 1);
                    ground(all.groundOf(c));
                    sign('!');
                    break;
                case Coercions.DOWN:
                    ground(all.groundOf(c));
                    sign('?');
                    label(all.labelOf(c));
                    sign(' ');
                    writeCoercion(all, all.left(c), deep - 1);
                    break;
                case Coercions.FAIL:
                    sign('X');
                    ground(all.groundOf(c));
                    label(all.labelOf(c));
                    ground(all.otherGroundOf(c));
                    break;
                case Coercions.FUNCTION:
                case Coercions.IDLE_FUNCTION:
                    sign('[');
                    writeCoercion(all, all.left(c), deep - 1);
                    sign(' ');
                    writeCoercion(all, all.right(c), deep - 1);
                    sign(']');
                    break;
                default:
                    sign('n');
                    break;
            }
        }

        private void ground(int type) {
            sign(type == INT ? 'i' : type == BOOL ? 'b' : 'f');
        }

        private void label(int label) {
            digits(label >> 1);
            sign((label & 1) == 0 ? '+' : '-');
        }

        private void writeTerm(Check check, int node, boolean casts, int deep) {
            int kind = at(check.term.kind, node);
            int number = at(check.term.number, node);
            if (deep <= 0) {
                return;
            }
            if (kind == NUMBER) {
                digits(number);
            } else if (kind == TRUTH) {
                word(number == 1 ? "true" : "false");
            } else if (kind == NAME) {
                name(at(check.term.name, number));
            } else {
                sign('(');
                writeHead(check, node, kind);
                writeParts(check, node, casts, deep);
                if (kind == AS) {
                    sign(' ');
                    writeType(check.types, check.annotation(number), DEEP);
                }
                sign(')');
            }
        }

        private void writeHead(Check check, int node, int kind) {
            switch (kind) {
                case FUN: word("fun "); break;
                case LET: word("let "); break;
                case REC: word("rec "); break;
                case IF: word("if "); break;
                case AS: word("as "); break;
                case PLUS: word("+ "); break;
                case MINUS: word("- "); break;
                case LESS: word("< "); break;
                case EQUAL: word("= "); break;
                default: break;
            }
            if (kind == FUN || kind == LET || kind == REC) {
                name(at(check.term.name, node));
                sign(' ');
                writeType(check.types, check.annotation(at(check.term.number, node)), DEEP);
                sign(' ');
            }
        }

        private void writeParts(Check check, int node, boolean casts, int deep) {
            for (int slot = 0; slot < 3; slot++) {
                int part = check.term.part(node, slot);
                if (part < 0) {
                    return;
                }
                if (slot > 0) {
                    sign(' ');
                }
                int cast = at(check.castOn, part);
                if (casts && cast >= 0) {
                    sign('{');
                    digits(cast);
                    sign('}');
                }
                writeTerm(check, part, casts, deep - 1);
            }
        }

        /* The first letter has the highest bits that are not 0. */
        private void name(int letters) {
            for (int shift = 25; shift >= 0; shift -= 5) {
                int letter = (letters >> shift) & 31;
                if (letter > 0) {
                    sign(96 + letter);
                }
            }
        }
    }

    /** Types and coercions laid beside, in pools of their own, since programs come and go. */
    private static final class Beside {
        private static final int MOST_TYPES = 12;
        private static final int MOST_COERCIONS = 16;

        private final Types types = new Types();
        private final Coercions coercions = new Coercions();
        private final int[] typeRow = new int[MOST_TYPES];
        private final int[] coercionRow = new int[MOST_COERCIONS];
        private final int[] fromRow = new int[MOST_COERCIONS];
        private final int[] toRow = new int[MOST_COERCIONS];
        private int typeCount = 0;
        private int coercionCount = 0;

        private boolean hasTypes(int a, int b) {
            return a >= 0 && a < typeCount && b >= 0 && b < typeCount;
        }

        private boolean hasCoercion(int s) {
            return s >= 0 && s < coercionCount;
        }

        private int layText(Scanner scan, int n) {
            int before = types.trees.rows;
            scan.start(n);
            int type = scan.readType(types, 0, 0);
            if (type >= 0 && scan.token() != Scanner.END) {
                scan.refuse(1);
            }
            if (scan.fault != 0 || typeCount >= MOST_TYPES) {
                types.pool.cutTo(before);
                return scan.fault != 0 ? scan.fault : -2;
            }
            return layType(type);
        }

        private int layType(int type) {
            put(typeRow, typeCount, type);
            typeCount++;
            return typeCount - 1;
        }

        private int ofPair(int a, int b, int what) {
            int first = at(typeRow, a);
            int second = at(typeRow, b);
            switch (what) {
                case 0: return types.consistent(first, second, DEEP) ? 1 : 0;
                case 1: return types.precise(first, second, DEEP) ? 1 : 0;
                case 2: return types.positive(first, second, DEEP) ? 1 : 0;
                case 3: return types.negative(first, second, DEEP) ? 1 : 0;
                case 4: return first == second ? 1 : 0;
                default: return NONE;
            }
        }

        private int layMeet(int a, int b) {
            int first = at(typeRow, a);
            int second = at(typeRow, b);
            if (!types.consistent(first, second, DEEP)) {
                return -2;
            }
            int before = types.trees.rows;
            return likeOrLaid(types.met(first, second, DEEP), before);
        }

        private int layJoin(int a, int b) {
            int before = types.trees.rows;
            return likeOrLaid(types.common(at(typeRow, a), at(typeRow, b), DEEP), before);
        }

        private int likeOrLaid(int type, int before) {
            for (int i = 0; i < typeCount; i++) {
                if (at(typeRow, i) == type) {
                    return i;
                }
            }
            if (typeCount >= MOST_TYPES) {
                types.pool.cutTo(before);
                return -3;
            }
            return layType(type);
        }

        private int layCast(int a, int b, int p) {
            int from = at(typeRow, a);
            int to = at(typeRow, b);
            if (!types.consistent(from, to, DEEP)) {
                return -2;
            }
            if (coercionCount >= MOST_COERCIONS) {
                return -3;
            }
            return layCoercion(coercions.between(types, from, to, 2 * p, DEEP), from, to);
        }

        private int layThen(int s, int t) {
            if (at(toRow, s) != at(fromRow, t)) {
                return -2;
            }
            if (coercionCount >= MOST_COERCIONS) {
                return -3;
            }
            int both = coercions.joined(at(coercionRow, s), at(coercionRow, t), DEEP);
            return layCoercion(both, at(fromRow, s), at(toRow, t));
        }

        private int layCoercion(int coercion, int from, int to) {
            put(coercionRow, coercionCount, coercion);
            put(fromRow, coercionCount, from);
            put(toRow, coercionCount, to);
            coercionCount++;
            return coercionCount - 1;
        }

        private int ofCoercion(int s, int what) {
            int c = at(coercionRow, s);
            boolean fails = coercions.kindOf(c) == Coercions.FAIL;
            switch (what) {
                case 0: return coercions.size(c);
                case 1: return coercions.depth(c);
                case 2: return kindOf(c);
                case 3: return Coercions.isIdle(coercions.kindOf(c)) ? 1 : 0;
                case 4: return coercions.labels(c, DEEP);
                case 5: return fails ? coercions.labelOf(c) >> 1 : -2;
                case 6: return !fails ? 0 : (coercions.labelOf(c) & 1) == 0 ? 1 : -1;
                default: return NONE;
            }
        }

        private int kindOf(int c) {
            switch (coercions.kindOf(c)) {
                case Coercions.N_UNKNOWN: return 0;
                case Coercions.FUNCTION: return 2;
                case Coercions.IDLE_FUNCTION: return 2;
                case Coercions.UP: return 3;
                case Coercions.DOWN: return 4;
                case Coercions.FAIL: return 5;
                default: return 1;
            }
        }

        private int dropCoercions() {
            int went = coercionCount;
            coercionCount = 0;
            coercions.pool.cutTo(Coercions.PRESENT);
            return went;
        }

        private int dropTypes() {
            int went = typeCount;
            typeCount = 0;
            types.pool.cutTo(Types.PRESENT);
            return went;
        }
    }
}
