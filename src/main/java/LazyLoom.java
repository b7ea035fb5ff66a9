import java.util.Arrays;

/**
 * A lazy machine and its optimiser: expressions are told node by node, globals get them, passes write the
 * program of now anew, and both that program and the one of the beginning can be run and asked about.
 */
public final class LazyLoom {
    /** None: no such part, no such answer. */
    public static final int NONE = -1;

    /** How runs end. */
    public static final int NUMBER = 0, FUNCTION = 1, DATA = 2, RAISED = 3, LOOP = 4, WRONG = 5, ENDLESS = 6,
        INTERRUPTED = 7;

    /** Passes. */
    public static final int FOLD = 0, DEAD = 1, BETA = 2, KNOWN = 3, ONCE = 4, STRICTLY = 5, INLINE = 6, FLOAT = 7,
        FUSE = 8;

    private static final int GLOBALS = 8;
    private static final int NAMES = 16;
    private static final int ALL_NAMES = 0xFFFF;
    private static final int TAGS = 4;
    private static final int CENTRES = 4;
    private static final int OPERATIONS = 5;
    private static final int ADDS = 0, TAKES = 1, MULTIPLIES = 2, IS_LESS = 3, DIVIDES = 4;
    private static final int PASSES = 9;
    private static final int MOST_CALLS = 512;
    private static final int MOST_TOLD = 200;
    private static final int MOST_NODES = 80;
    private static final int MOST_RULES = 8;
    private static final int MOST_NUMBERS = 2;
    private static final int MOST_SPARKS = 4;
    private static final int RUN_STEPS = 600;
    private static final int SPARK_STEPS = 200;
    private static final int INLINED_NODES = 12;

    /** 80 nodes hold at most 26 calls of GLOBALs, three nodes each, and each brings at most 11 nodes more. */
    private static final int WORK_NODES = 400;

    /** Far above the turns that any loop here can need. */
    private static final int MANY_TURNS = 1000000;

    private static final int COUNTS = 10;
    private static final int STEPS = 0, CELLS = 1, UPDATES = 2, SPARK_COUNT = 3, FIZZLED = 4, SPARKED = 5, AT_CENTRE = 6;

    private final Tree told;
    private final int[] toldSize;
    private final int[] toldFree;
    private final Program now;
    private final Program begun;
    private final Demand demand;
    private final Rewriter rewriter;
    private final Finder finder;
    private boolean hasBegun;

    /** Makes a loom with no nodes, globals and rules. */
    public LazyLoom() {
        told = new Tree(MOST_TOLD);
        toldSize = new int[MOST_TOLD];
        toldFree = new int[MOST_TOLD];
        now = new Program();
        begun = new Program();
        demand = new Demand(now);
        rewriter = new Rewriter(now, demand);
        finder = new Finder(now, begun);
        hasBegun = false;
    }

    /** Tells a NUM. */
    public int num(int number) throws IllegalStateException {
        return tell(Kind.NUM, number, 0, 0, NONE, NONE, NONE);
    }

    /** Tells a VAR. */
    public int var(int name) throws IllegalArgumentException, IllegalStateException {
        checkRange(name, NAMES);
        return tell(Kind.VAR, 0, name, 0, NONE, NONE, NONE);
    }

    /** Tells a GLOBAL. */
    public int global(int global) throws IllegalArgumentException, IllegalStateException {
        checkRange(global, GLOBALS);
        return tell(Kind.GLOBAL, global, 0, 0, NONE, NONE, NONE);
    }

    /** Tells a LAM: a function of the name. */
    public int lam(int name, int b) throws IndexOutOfBoundsException, IllegalArgumentException, IllegalStateException {
        checkTold(b);
        checkRange(name, NAMES);
        return tell(Kind.LAM, 0, name, 0, b, NONE, NONE);
    }

    /** Tells an APP: f on the atom a. */
    public int app(int f, int a) throws IndexOutOfBoundsException, IllegalArgumentException, IllegalStateException {
        checkTold(f);
        checkTold(a);
        checkAtom(a);
        return tell(Kind.APP, 0, 0, 0, f, a, NONE);
    }

    /** Tells a LET: the name is e in b, and in e itself. */
    public int let(int name, int e, int b)
            throws IndexOutOfBoundsException, IllegalArgumentException, IllegalStateException {
        checkTold(e);
        checkTold(b);
        checkRange(name, NAMES);
        return tell(Kind.LET, 0, name, 0, e, b, NONE);
    }

    /** Tells a CON: data with a tag and up to two atoms. */
    public int con(int tag, int first, int second)
            throws IndexOutOfBoundsException, IllegalArgumentException, IllegalStateException {
        if (first != NONE) {
            checkTold(first);
        }
        if (second != NONE) {
            checkTold(second);
        }
        checkRange(tag, TAGS);
        if (first != NONE) {
            checkAtom(first);
        }
        if (second != NONE) {
            checkAtom(second);
        }
        if (first == NONE && second != NONE) {
            throw new IllegalArgumentException("second is there without first");
        }
        return tell(Kind.CON, tag, 0, 0, first, second, NONE);
    }

    /** Tells a MATCH: b with the fields as x and y if e is data with the tag, otherwise c. */
    public int match(int e, int tag, int x, int y, int b, int c)
            throws IndexOutOfBoundsException, IllegalArgumentException, IllegalStateException {
        checkTold(e);
        checkTold(b);
        checkTold(c);
        checkRange(tag, TAGS);
        checkRange(x, NAMES);
        checkRange(y, NAMES);
        return tell(Kind.MATCH, tag, x, y, e, b, c);
    }

    /** Tells an IF: b if e is not 0, otherwise c. */
    public int choose(int e, int b, int c) throws IndexOutOfBoundsException, IllegalStateException {
        checkTold(e);
        checkTold(b);
        checkTold(c);
        return tell(Kind.IF, 0, 0, 0, e, b, c);
    }

    /** Tells a PRIM: the operation o of a and b. */
    public int prim(int o, int a, int b)
            throws IndexOutOfBoundsException, IllegalArgumentException, IllegalStateException {
        checkTold(a);
        checkTold(b);
        checkRange(o, OPERATIONS);
        return tell(Kind.PRIM, o, 0, 0, a, b, NONE);
    }

    /** Tells a SEQ: a, then b. */
    public int seq(int a, int b) throws IndexOutOfBoundsException, IllegalStateException {
        checkTold(a);
        checkTold(b);
        return tell(Kind.SEQ, 0, 0, 0, a, b, NONE);
    }

    /** Tells a RAISE of the number a. */
    public int raise(int a) throws IndexOutOfBoundsException, IllegalStateException {
        checkTold(a);
        return tell(Kind.RAISE, 0, 0, 0, a, NONE, NONE);
    }

    /** Tells a CATCH: a, or, if that raises, b, in which x is the number. */
    public int hold(int a, int x, int b)
            throws IndexOutOfBoundsException, IllegalArgumentException, IllegalStateException {
        checkTold(a);
        checkTold(b);
        checkRange(x, NAMES);
        return tell(Kind.CATCH, 0, x, 0, a, b, NONE);
    }

    /** Tells a PAR: a spark of x, then b. */
    public int par(int x, int b) throws IndexOutOfBoundsException, IllegalArgumentException, IllegalStateException {
        checkTold(b);
        checkRange(x, NAMES);
        return tell(Kind.PAR, 0, x, 0, b, NONE, NONE);
    }

    /** Tells a CENTRE: b at the centre c. */
    public int centre(int c, int b) throws IndexOutOfBoundsException, IllegalArgumentException, IllegalStateException {
        checkTold(b);
        checkRange(c, CENTRES);
        return tell(Kind.CENTRE, c, 0, 0, b, NONE, NONE);
    }

    /** Gives a global of now its expression, and tells how many nodes it has. */
    public int define(int global, int node)
            throws IndexOutOfBoundsException, IllegalArgumentException, IllegalStateException {
        checkTold(node);
        checkRange(global, GLOBALS);
        if (toldFree[node] != 0) {
            throw new IllegalStateException("it has free names");
        }
        if (toldSize[node] > MOST_NODES) {
            throw new IllegalStateException("it has more than 80 nodes");
        }
        now.write(global, told, node);
        demand.forget();
        return now.sizeOf(global);
    }

    /** Tells a rule, by which f of g is h, and answers how many rules there are then. */
    public int rule(int f, int g, int h) throws IllegalArgumentException, IllegalStateException {
        checkRange(f, GLOBALS);
        checkRange(g, GLOBALS);
        checkRange(h, GLOBALS);
        if (rewriter.hasAllRules()) {
            throw new IllegalStateException("there are 8 rules");
        }
        return rewriter.addRule(f, g, h);
    }

    /** Makes the program of now that of the beginning, and tells how many globals are something. */
    public int begin() {
        begun.copy(now);
        hasBegun = true;
        return begun.howMany();
    }

    /** Lets a pass go over a global of now, and tells how many nodes were written anew, or NONE. */
    public int pass(int pass, int global) throws IllegalArgumentException, IllegalStateException {
        checkRange(pass, PASSES);
        checkRange(global, GLOBALS);
        if (now.sizeOf(global) == 0) {
            throw new IllegalStateException("the global is nothing");
        }
        return rewriter.rewrite(pass, global);
    }

    /** Runs a global on up to two numbers, with sharing, and tells how that ends. */
    public int run(int global, int many, int a, int b, int interrupt, boolean isBegun)
            throws IllegalArgumentException, IllegalStateException {
        checkRange(interrupt, RUN_STEPS + 1);
        Program program = programToRun(global, many, isBegun);
        int root = program.call(global, many, a, b);
        return finder.find(program, root, true, interrupt);
    }

    /** Runs a global on up to two numbers, without sharing, and tells how that ends. */
    public int plainly(int global, int many, int a, int b, boolean isBegun)
            throws IllegalArgumentException, IllegalStateException {
        Program program = programToRun(global, many, isBegun);
        int root = program.call(global, many, a, b);
        return finder.find(program, root, false, 0);
    }

    /** Tells the number of the last run, or 10 times the tag and the fields of its data, or 0. */
    public int value() {
        return finder.answer();
    }

    /** Tells a count of the last run. */
    public int count(int what) throws IllegalArgumentException {
        checkRange(what, COUNTS);
        return finder.counted(what);
    }

    /** Tells whether one of the first LAMs of a global of now is needed: 1, 0, or NONE without it. */
    public int needed(int global, int place) throws IllegalArgumentException {
        checkRange(global, GLOBALS);
        if (place < 0) {
            throw new IllegalArgumentException("place is below 0");
        }
        if (place >= now.firstLams(global)) {
            return NONE;
        }
        return demand.isNeeded(global, place) ? 1 : 0;
    }

    /** Tells how many nodes a global has. */
    public int size(int global, boolean isBegun) throws IllegalArgumentException, IllegalStateException {
        checkRange(global, GLOBALS);
        return programOf(isBegun).sizeOf(global);
    }

    /** Tells of a node of a global of now. */
    public int node(int global, int place, int what) throws IndexOutOfBoundsException, IllegalArgumentException {
        checkRange(global, GLOBALS);
        if (place < 0 || place >= now.sizeOf(global)) {
            throw new IndexOutOfBoundsException("the global has no such place");
        }
        int at = global * MOST_NODES + place;
        switch (what) {
            case 0:
                return now.code.kindOf(at);
            case 1:
                return now.code.numberOf(at);
            case 2:
                return now.code.nameOf(at);
            case 3:
                return now.code.otherOf(at);
            default:
                throw new IllegalArgumentException("what is out of its range");
        }
    }

    private void checkRange(int asked, int end) {
        if (asked < 0 || asked >= end) {
            throw new IllegalArgumentException("out of its range");
        }
    }

    private void checkTold(int node) {
        if (!told.has(node)) {
            throw new IndexOutOfBoundsException("no such node");
        }
    }

    private void checkAtom(int node) {
        if (!Kind.isAtom(told.kindOf(node))) {
            throw new IllegalArgumentException("no atom");
        }
    }

    private Program programOf(boolean isBegun) {
        if (!isBegun) {
            return now;
        }
        if (!hasBegun) {
            throw new IllegalStateException("there is no program of the beginning");
        }
        return begun;
    }

    private Program programToRun(int global, int many, boolean isBegun) {
        checkRange(global, GLOBALS);
        checkRange(many, MOST_NUMBERS + 1);
        return programOf(isBegun);
    }

    private int tell(int kind, int number, int name, int other, int first, int second, int third) {
        int node = told.reserve(1);
        if (node == NONE) {
            throw new IllegalStateException("there are 200 nodes");
        }
        told.set(node, kind, number, name, other);
        told.join(node, first, second, third);
        // Sums over a node told often can run over an int, so they stop just above what may be defined.
        int nodes = 1;
        int free = kind == Kind.VAR || kind == Kind.PAR ? 1 << name : 0;
        for (int which = 0; which < Tree.PARTS; which++) {
            int part = told.part(node, which);
            if (part >= 0 && part < node) {
                nodes += toldSize[part];
                free |= toldFree[part] & ~told.binds(node, which);
            }
        }
        toldSize[node] = Math.min(nodes, MOST_NODES + 1);
        toldFree[node] = free;
        return node;
    }

    private static boolean isDividingByZero(int operation, int b) {
        return operation == DIVIDES && b == 0;
    }

    private static int operated(int operation, int a, int b) {
        switch (operation) {
            case ADDS:
                return a + b;
            case TAKES:
                return a - b;
            case MULTIPLIES:
                return a * b;
            case IS_LESS:
                return a < b ? 1 : 0;
            default:
                return b == 0 ? 0 : a / b;
        }
    }

    /** The kinds of nodes, by the numbers that node() tells. */
    private static final class Kind {
        static final int NUM = 0, VAR = 1, GLOBAL = 2, LAM = 3, APP = 4, LET = 5, STRICT = 6, CON = 7, MATCH = 8,
            IF = 9, PRIM = 10, SEQ = 11, RAISE = 12, CATCH = 13, PAR = 14, CENTRE = 15;

        private Kind() {
        }

        static boolean isAtom(int kind) {
            return kind == NUM || kind == VAR || kind == GLOBAL;
        }

        /** Whether such a node is a value as it stands, found without a step where a LET or a GLOBAL has it. */
        static boolean isValue(int kind) {
            return kind == NUM || kind == LAM || kind == CON;
        }
    }

    /** Nodes in rows, with up to three parts each. */
    private static final class Tree {
        static final int PARTS = 3;

        private final int[] kinds;
        private final int[] numbers;
        private final int[] names;
        private final int[] others;
        private final int[] parts;
        private int size;

        Tree(int most) {
            kinds = new int[most];
            numbers = new int[most];
            names = new int[most];
            others = new int[most];
            parts = new int[PARTS * most];
            size = 0;
        }

        boolean has(int node) {
            return node >= 0 && node < size;
        }

        void clear() {
            size = 0;
        }

        /** Makes place for so many nodes more; returns the first of them, or NONE if there is no place. */
        int reserve(int many) {
            if (many < 0 || many > kinds.length - size) {
                return NONE;
            }
            int first = size;
            size += many;
            return first;
        }

        /** Writes a node without parts. */
        void set(int node, int kind, int number, int name, int other) {
            if (has(node)) {
                kinds[node] = kind;
                numbers[node] = number;
                names[node] = name;
                others[node] = other;
                parts[PARTS * node] = NONE;
                parts[PARTS * node + 1] = NONE;
                parts[PARTS * node + 2] = NONE;
            }
        }

        void join(int node, int first, int second, int third) {
            if (has(node)) {
                parts[PARTS * node] = first;
                parts[PARTS * node + 1] = second;
                parts[PARTS * node + 2] = third;
            }
        }

        void link(int node, int which, int part) {
            if (has(node) && which >= 0 && which < PARTS) {
                parts[PARTS * node + which] = part;
            }
        }

        /** Writes the row of a node of any tree at a node of this one, without its parts. */
        void take(int to, Tree from, int node) {
            if (from.has(node)) {
                set(to, from.kinds[node], from.numbers[node], from.names[node], from.others[node]);
            }
        }

        /** Writes another node of this tree at a node, which has the other's parts then. */
        void become(int to, int from) {
            if (has(to) && has(from)) {
                kinds[to] = kinds[from];
                numbers[to] = numbers[from];
                names[to] = names[from];
                others[to] = others[from];
                System.arraycopy(parts, PARTS * from, parts, PARTS * to, PARTS);
            }
        }

        // The range is looked at in each of these itself, since they stand at the end of the longest ways of calls.

        int kindOf(int node) {
            return node >= 0 && node < size ? kinds[node] : NONE;
        }

        int numberOf(int node) {
            return node >= 0 && node < size ? numbers[node] : 0;
        }

        int nameOf(int node) {
            return node >= 0 && node < size ? names[node] : 0;
        }

        int otherOf(int node) {
            return node >= 0 && node < size ? others[node] : 0;
        }

        int part(int node, int which) {
            return node >= 0 && node < size && which >= 0 && which < PARTS ? parts[PARTS * node + which] : NONE;
        }

        /** The names that a node binds in one of its parts, one bit for each. */
        int binds(int node, int which) {
            switch (kindOf(node)) {
                case Kind.LAM:
                case Kind.LET:
                    return 1 << names[node];
                case Kind.STRICT:
                case Kind.CATCH:
                    return which == 1 ? 1 << names[node] : 0;
                case Kind.MATCH:
                    return which == 1 ? 1 << names[node] | 1 << others[node] : 0;
                default:
                    return 0;
            }
        }
    }

    /** The expressions of the globals, each in preorder in its own stretch of the code, and their cells. */
    private static final class Program {
        private static final int CALLS = GLOBALS * MOST_NODES;
        private static final int CALL_NODES = 2 * MOST_NUMBERS + 1;

        static final int CODE_NODES = CALLS + CALL_NODES;

        final Tree code;
        private final int[] sizes;
        private final int[] states;
        private final long[] values;
        private final int[] waiting;
        private final int[] links;

        Program() {
            code = new Tree(CODE_NODES);
            code.reserve(CODE_NODES);
            sizes = new int[GLOBALS];
            states = new int[GLOBALS];
            values = new long[GLOBALS];
            waiting = new int[Tree.PARTS * MOST_NODES];
            links = new int[Tree.PARTS * MOST_NODES];
        }

        int sizeOf(int global) {
            return global >= 0 && global < GLOBALS ? sizes[global] : 0;
        }

        int rootOf(int global) {
            return global * MOST_NODES;
        }

        int howMany() {
            int many = 0;
            for (int global = 0; global < GLOBALS; global++) {
                many += sizes[global] > 0 ? 1 : 0;
            }
            return many;
        }

        /** How many LAMs stand at the beginning of a global's expression, each in the one before. */
        int firstLams(int global) {
            int many = 0;
            int size = sizeOf(global);
            while (many < size && code.kindOf(rootOf(global) + many) == Kind.LAM) {
                many++;
            }
            return many;
        }

        /** Gives a global an expression of another tree, one node a place, a node ahead of its parts. */
        void write(int global, Tree from, int root) {
            if (global < 0 || global >= GLOBALS) {
                return;
            }
            int base = rootOf(global);
            int size = 0;
            int left = 1;
            waiting[0] = root;
            links[0] = NONE;
            while (left > 0 && left <= waiting.length && size < MOST_NODES) {
                left--;
                int node = waiting[left];
                int link = links[left];
                int place = base + size;
                size++;
                code.take(place, from, node);
                if (link >= 0) {
                    code.link(link / Tree.PARTS, link % Tree.PARTS, place);
                }
                // The last part waits longest, so that the first one with all in it comes next.
                for (int which = Tree.PARTS - 1; which >= 0; which--) {
                    int part = from.part(node, which);
                    if (part != NONE && left < waiting.length) {
                        waiting[left] = part;
                        links[left] = Tree.PARTS * place + which;
                        left++;
                    }
                }
            }
            sizes[global] = size;
            forget();
        }

        /** Empties the cells of all globals, since any of them may have been found by way of another. */
        void forget() {
            Arrays.fill(states, Heap.WAITING);
            Arrays.fill(values, 0L);
        }

        void copy(Program other) {
            for (int global = 0; global < GLOBALS; global++) {
                sizes[global] = 0;
                if (other.sizes[global] > 0) {
                    write(global, other.code, rootOf(global));
                }
            }
            forget();
        }

        /** Writes the call of a global on so many numbers behind the globals; returns its node. */
        int call(int global, int many, int a, int b) {
            code.set(CALLS, Kind.GLOBAL, global, 0, 0);
            code.set(CALLS + 1, Kind.NUM, a, 0, 0);
            code.set(CALLS + 2, Kind.APP, 0, 0, 0);
            code.join(CALLS + 2, CALLS, CALLS + 1, NONE);
            code.set(CALLS + 3, Kind.NUM, b, 0, 0);
            code.set(CALLS + 4, Kind.APP, 0, 0, 0);
            code.join(CALLS + 4, CALLS + 2, CALLS + 3, NONE);
            return CALLS + 2 * many;
        }

        boolean hasFound() {
            for (int global = 0; global < GLOBALS; global++) {
                if (states[global] == Heap.FOUND) {
                    return true;
                }
            }
            return false;
        }

        int stateOf(int global) {
            return global >= 0 && global < GLOBALS ? states[global] : Heap.WAITING;
        }

        long valueOf(int global) {
            return global >= 0 && global < GLOBALS ? values[global] : Thing.NOTHING;
        }

        void setCell(int global, int state, long thing) {
            if (global >= 0 && global < GLOBALS) {
                states[global] = state;
                values[global] = thing;
            }
        }
    }

    /** What names and cells hold: a number, a function, data, or whose cell it is; packed into a long. */
    private static final class Thing {
        static final long NOTHING = 0L;
        static final int NO = 0, NUMERAL = 1, LAMBDA = 2, RECORD = 3, CELL = 4, GLOBAL = 5;

        private static final int SORT_SHIFT = 48;
        private static final int NODE_SHIFT = 32;
        private static final int NODE_MASK = 0xFFFF;
        private static final long LOW_MASK = 0xFFFFFFFFL;

        private Thing() {
        }

        static long of(int sort, int low) {
            return (long) sort << SORT_SHIFT | low & LOW_MASK;
        }

        static long lambda(int node, int env) {
            return of(LAMBDA, env) | (long) (node & NODE_MASK) << NODE_SHIFT;
        }

        static int sort(long thing) {
            return (int) (thing >> SORT_SHIFT);
        }

        /** The number, the function's names around it, the record, or the global. */
        static int low(long thing) {
            return (int) thing;
        }

        static int nodeOf(long thing) {
            return (int) (thing >> NODE_SHIFT) & NODE_MASK;
        }
    }

    /** Which names an expression surely needs, and which of the first LAMs of the globals of now. */
    private static final class Demand {
        /** Each round but the last one takes at least one name from a global. */
        private static final int MOST_ROUNDS = GLOBALS * NAMES + 2;

        private final Program now;
        private final Walk walk;
        private final int[] needs;
        private final int[] lams;
        private final int[] names;
        private final int[] nextNames;
        private final boolean[] isPlaceNeeded;
        private boolean isSettled;

        Demand(Program now) {
            this.now = now;
            walk = new Walk(now.code);
            needs = new int[Program.CODE_NODES];
            lams = new int[GLOBALS];
            names = new int[GLOBALS];
            nextNames = new int[GLOBALS];
            isPlaceNeeded = new boolean[GLOBALS * MOST_NODES];
            isSettled = false;
        }

        /** Lets go of what was found, because the program of now is another one. */
        void forget() {
            isSettled = false;
        }

        boolean isNeeded(int global, int place) {
            settle();
            int at = global * MOST_NODES + place;
            return place >= 0 && place < MOST_NODES && at >= 0 && at < isPlaceNeeded.length && isPlaceNeeded[at];
        }

        /** Looks again and again for all globals at once, from all names on, till nothing is otherwise. */
        void settle() {
            if (isSettled) {
                return;
            }
            for (int global = 0; global < GLOBALS; global++) {
                lams[global] = now.firstLams(global);
                names[global] = ALL_NAMES;
                mark(global);
            }
            boolean isOtherwise = true;
            for (int round = 0; round < MOST_ROUNDS && isOtherwise; round++) {
                isOtherwise = goRound();
            }
            isSettled = true;
        }

        private boolean goRound() {
            for (int global = 0; global < GLOBALS; global++) {
                nextNames[global] = now.sizeOf(global) == 0 ? 0 : of(now.code, now.rootOf(global) + lams[global]);
            }
            boolean isOtherwise = false;
            for (int global = 0; global < GLOBALS; global++) {
                if (nextNames[global] != names[global]) {
                    names[global] = nextNames[global];
                    mark(global);
                    isOtherwise = true;
                }
            }
            return isOtherwise;
        }

        /** Of first LAMs with one name only the inner one can be needed, so the places are gone through backwards. */
        private void mark(int global) {
            int left = names[global];
            for (int place = lams[global] - 1; place >= 0; place--) {
                int bit = 1 << now.code.nameOf(now.rootOf(global) + place);
                int at = global * MOST_NODES + place;
                if (at >= 0 && at < isPlaceNeeded.length) {
                    isPlaceNeeded[at] = (left & bit) != 0;
                }
                left &= ~bit;
            }
        }

        /** The names that a node surely needs, by what is known of the globals. */
        int of(Tree tree, int root) {
            walk.over(tree, root);
            for (int i = walk.many() - 1; i >= 0; i--) {
                int node = walk.nodeAt(i);
                if (node >= 0 && node < needs.length) {
                    needs[node] = look(tree, node);
                }
            }
            return partNeeds(root);
        }

        private int partNeeds(int part) {
            return part >= 0 && part < needs.length ? needs[part] : 0;
        }

        private int look(Tree tree, int node) {
            int first = partNeeds(tree.part(node, 0));
            int second = partNeeds(tree.part(node, 1));
            int third = partNeeds(tree.part(node, 2));
            int bit = 1 << tree.nameOf(node);
            switch (tree.kindOf(node)) {
                case Kind.VAR:
                    return bit;
                case Kind.RAISE:
                    return ALL_NAMES;
                case Kind.APP:
                    return first | lookAtCall(tree, node);
                case Kind.LET:
                    return ((second & bit) != 0 ? first | second : second) & ~bit;
                case Kind.STRICT:
                    return first | second & ~bit;
                case Kind.MATCH:
                    return first | second & ~tree.binds(node, 1) & third;
                case Kind.IF:
                    return first | second & third;
                case Kind.PRIM:
                case Kind.SEQ:
                    return first | second;
                case Kind.PAR:
                case Kind.CENTRE:
                    return first;
                default:
                    return 0;
            }
        }

        /** The atoms that a GLOBAL needs which is called on enough of them. */
        private int lookAtCall(Tree tree, int node) {
            int many = 0;
            int head = node;
            while (tree.kindOf(head) == Kind.APP && many < MOST_NODES) {
                many++;
                head = tree.part(head, 0);
            }
            int global = tree.numberOf(head);
            if (tree.kindOf(head) != Kind.GLOBAL || global < 0 || global >= GLOBALS || lams[global] > many) {
                return 0;
            }
            int found = 0;
            int app = node;
            for (int place = many - 1; place >= 0; place--) {
                int atom = tree.part(app, 1);
                if (place < lams[global] && tree.kindOf(atom) == Kind.VAR && isPlaceNeeded[global * MOST_NODES + place]) {
                    found |= 1 << tree.nameOf(atom);
                }
                app = tree.part(app, 0);
            }
            return found;
        }
    }

    /** The nodes of an expression, each behind the one of which it is a part, and what is around each. */
    private static final class Walk {
        private final int[] nodes;
        private final int[] bound;
        private final boolean[] isSealed;
        private final boolean[] isField;
        private Tree tree;
        private int size;

        Walk(Tree tree) {
            nodes = new int[WORK_NODES];
            bound = new int[WORK_NODES];
            isSealed = new boolean[WORK_NODES];
            isField = new boolean[WORK_NODES];
            this.tree = tree;
            size = 0;
        }

        void over(Tree tree, int root) {
            this.tree = tree;
            size = 1;
            nodes[0] = root;
            bound[0] = 0;
            isSealed[0] = false;
            isField[0] = false;
            for (int i = 0; i < size && i < nodes.length; i++) {
                int node = nodes[i];
                for (int which = 0; which < Tree.PARTS; which++) {
                    int part = tree.part(node, which);
                    if (part != NONE && size < nodes.length) {
                        nodes[size] = part;
                        bound[size] = bound[i] | tree.binds(node, which);
                        int kind = tree.kindOf(node);
                        isSealed[size] = isSealed[i] || kind == Kind.LAM || kind == Kind.CENTRE;
                        isField[size] = kind == Kind.CON || kind == Kind.APP && which == 1;
                        size++;
                    }
                }
            }
        }

        int many() {
            return size;
        }

        int nodeAt(int i) {
            return i >= 0 && i < size && i < nodes.length ? nodes[i] : NONE;
        }

        /** The names that are free in the expression, one bit for each. */
        int free() {
            int names = 0;
            for (int i = 0; i < size && i < nodes.length; i++) {
                int kind = tree.kindOf(nodes[i]);
                if (kind == Kind.VAR || kind == Kind.PAR) {
                    names |= 1 << tree.nameOf(nodes[i]) & ~bound[i];
                }
            }
            return names;
        }

        /** Whether something in which these names are free can be put in place of a name. */
        boolean takes(int name, int names) {
            for (int i = 0; i < size && i < nodes.length; i++) {
                if (isFree(i, Kind.PAR, name) || isFree(i, Kind.VAR, name) && (bound[i] & names) != 0) {
                    return false;
                }
            }
            return true;
        }

        /** Whether just one VAR of a name is free, and stands where it is found at most once and as it is here. */
        boolean isOnce(int name) {
            int times = 0;
            for (int i = 0; i < size && i < nodes.length; i++) {
                if (isFree(i, Kind.VAR, name)) {
                    if (isSealed[i] || isField[i]) {
                        return false;
                    }
                    times++;
                }
            }
            return times == 1;
        }

        void put(int name, int from) {
            for (int i = 0; i < size && i < nodes.length; i++) {
                if (isFree(i, Kind.VAR, name)) {
                    tree.become(nodes[i], from);
                }
            }
        }

        private boolean isFree(int i, int kind, int name) {
            return tree.kindOf(nodes[i]) == kind && tree.nameOf(nodes[i]) == name && (bound[i] & 1 << name) == 0;
        }
    }

    /** The passes over a copy of a global's expression, which becomes the expression when it is small enough. */
    private static final class Rewriter {
        private final Program now;
        private final Demand demand;
        private final Tree work;
        private final Walk walk;
        private final int[] calls;
        private final int[] outers;
        private final int[] inners;
        private final int[] fusions;
        private int rules;

        Rewriter(Program now, Demand demand) {
            this.now = now;
            this.demand = demand;
            work = new Tree(WORK_NODES);
            walk = new Walk(work);
            calls = new int[GLOBALS];
            outers = new int[MOST_RULES];
            inners = new int[MOST_RULES];
            fusions = new int[MOST_RULES];
            rules = 0;
        }

        boolean hasAllRules() {
            return rules >= MOST_RULES;
        }

        /** Adds a rule, by which f of g is h; returns how many there are then. */
        int addRule(int f, int g, int h) {
            if (rules < MOST_RULES) {
                outers[rules] = f;
                inners[rules] = g;
                fusions[rules] = h;
                rules++;
            }
            return rules;
        }

        int rewrite(int pass, int global) {
            work.clear();
            bring(global, work.reserve(1));
            if (pass == STRICTLY) {
                demand.settle();
            }
            if (pass == INLINE) {
                lookAtCalls();
            }
            int written = 0;
            // Parts stand behind the nodes that have them; which of two parts comes first makes no difference.
            for (int node = now.sizeOf(global) - 1; node >= 0; node--) {
                if (fits(pass, node)) {
                    written++;
                }
            }
            if (written == 0) {
                return 0;
            }
            walk.over(work, 0);
            if (walk.many() > MOST_NODES) {
                return NONE;
            }
            now.write(global, work, 0);
            demand.forget();
            return written;
        }

        private void lookAtCalls() {
            for (int caller = 0; caller < GLOBALS; caller++) {
                calls[caller] = globalsIn(caller);
            }
        }

        /** Writes a copy of a global's expression at a node and at new ones; tells whether there was place. */
        private boolean bring(int global, int root) {
            int size = now.sizeOf(global);
            int base = now.rootOf(global);
            int start = work.reserve(size - 1);
            if (start == NONE) {
                return false;
            }
            for (int place = 0; place < size; place++) {
                int to = place == 0 ? root : start + place - 1;
                work.take(to, now.code, base + place);
                for (int which = 0; which < Tree.PARTS; which++) {
                    int part = now.code.part(base + place, which);
                    if (part != NONE) {
                        work.link(to, which, start + part - base - 1);
                    }
                }
            }
            return true;
        }

        private boolean fits(int pass, int node) {
            switch (pass) {
                case FOLD:
                    return folds(node);
                case DEAD:
                    return drops(node);
                case BETA:
                    return applies(node);
                case KNOWN:
                    return knows(node);
                case ONCE:
                    return putsOnce(node);
                case STRICTLY:
                    return makesStrict(node);
                case INLINE:
                    return inlines(node);
                case FLOAT:
                    return floatsIn(node);
                case FUSE:
                    return fuses(node);
                default:
                    return false;
            }
        }

        private boolean folds(int node) {
            int first = work.part(node, 0);
            int second = work.part(node, 1);
            int kind = work.kindOf(first);
            switch (work.kindOf(node)) {
                case Kind.PRIM:
                    if (kind != Kind.NUM || work.kindOf(second) != Kind.NUM) {
                        return false;
                    }
                    return foldsNumbers(node, work.numberOf(first), work.numberOf(second));
                case Kind.IF:
                    if (kind != Kind.NUM) {
                        return false;
                    }
                    work.become(node, work.numberOf(first) != 0 ? second : work.part(node, 2));
                    return true;
                case Kind.SEQ:
                    if (!Kind.isValue(kind)) {
                        return false;
                    }
                    work.become(node, second);
                    return true;
                default:
                    return false;
            }
        }

        private boolean foldsNumbers(int node, int a, int b) {
            int operation = work.numberOf(node);
            if (isDividingByZero(operation, b)) {
                return false;
            }
            work.set(node, Kind.NUM, operated(operation, a, b), 0, 0);
            return true;
        }

        private boolean drops(int node) {
            int kind = work.kindOf(node);
            boolean isDroppable = kind == Kind.LET || kind == Kind.STRICT && Kind.isValue(work.kindOf(work.part(node, 0)));
            int b = work.part(node, 1);
            if (!isDroppable || isFreeIn(work.nameOf(node), b)) {
                return false;
            }
            work.become(node, b);
            return true;
        }

        private boolean isFreeIn(int name, int root) {
            walk.over(work, root);
            return (walk.free() & 1 << name) != 0;
        }

        private boolean applies(int node) {
            int lam = work.part(node, 0);
            if (work.kindOf(node) != Kind.APP || work.kindOf(lam) != Kind.LAM) {
                return false;
            }
            int atom = work.part(node, 1);
            int name = work.nameOf(lam);
            int b = work.part(lam, 0);
            walk.over(work, b);
            if (!walk.takes(name, namesOf(atom))) {
                return false;
            }
            walk.put(name, atom);
            work.become(node, b);
            return true;
        }

        private int namesOf(int atom) {
            return work.kindOf(atom) == Kind.VAR ? 1 << work.nameOf(atom) : 0;
        }

        private boolean knows(int node) {
            int data = work.part(node, 0);
            if (work.kindOf(node) != Kind.MATCH || work.kindOf(data) != Kind.CON) {
                return false;
            }
            if (work.numberOf(node) != work.numberOf(data)) {
                work.become(node, work.part(node, 2));
                return true;
            }
            int x = work.nameOf(node);
            int y = work.otherOf(node);
            int first = work.part(data, 0);
            int second = work.part(data, 1);
            int fieldNames = namesOf(first) | namesOf(second);
            if (x == y || (fieldNames & 1 << x) != 0) {
                return false;
            }
            int b = work.part(node, 1);
            walk.over(work, b);
            // The second field brings no VAR x, so whether the first one can be put is the same ahead of it.
            if (!fieldFits(x, first) || !fieldFits(y, second)) {
                return false;
            }
            putField(y, second);
            putField(x, first);
            work.become(node, b);
            return true;
        }

        private boolean fieldFits(int name, int field) {
            return field == NONE ? (walk.free() & 1 << name) == 0 : walk.takes(name, namesOf(field));
        }

        private void putField(int name, int field) {
            if (field != NONE) {
                walk.put(name, field);
            }
        }

        private boolean putsOnce(int node) {
            int e = work.part(node, 0);
            int name = work.nameOf(node);
            if (work.kindOf(node) != Kind.LET || isFreeIn(name, e)) {
                return false;
            }
            int names = walk.free();
            int b = work.part(node, 1);
            walk.over(work, b);
            if (!walk.isOnce(name) || !walk.takes(name, names)) {
                return false;
            }
            walk.put(name, e);
            work.become(node, b);
            return true;
        }

        private boolean makesStrict(int node) {
            int e = work.part(node, 0);
            int b = work.part(node, 1);
            int name = work.nameOf(node);
            if (work.kindOf(node) != Kind.LET || isFreeIn(name, e) || (demand.of(work, b) & 1 << name) == 0) {
                return false;
            }
            work.set(node, Kind.STRICT, 0, name, 0);
            work.join(node, e, b, NONE);
            return true;
        }

        private boolean inlines(int node) {
            int f = work.part(node, 0);
            if (work.kindOf(node) != Kind.APP || work.kindOf(f) != Kind.GLOBAL) {
                return false;
            }
            int global = work.numberOf(f);
            boolean isSmall = now.firstLams(global) > 0 && now.sizeOf(global) <= INLINED_NODES;
            return isSmall && !reachesItself(global) && bring(global, f);
        }

        private int globalsIn(int caller) {
            int found = 0;
            int end = now.rootOf(caller) + now.sizeOf(caller);
            for (int node = now.rootOf(caller); node < end; node++) {
                if (now.code.kindOf(node) == Kind.GLOBAL) {
                    found |= 1 << now.code.numberOf(node);
                }
            }
            return found;
        }

        private boolean reachesItself(int global) {
            if (global < 0 || global >= GLOBALS) {
                return true;
            }
            int reached = calls[global];
            // Each round but the last one reaches one global more.
            for (int round = 0; round < GLOBALS; round++) {
                for (int other = 0; other < GLOBALS; other++) {
                    if ((reached & 1 << other) != 0) {
                        reached |= calls[other];
                    }
                }
            }
            return (reached & 1 << global) != 0;
        }

        private boolean floatsIn(int node) {
            int choice = work.part(node, 1);
            if (work.kindOf(node) != Kind.LET || work.kindOf(choice) != Kind.IF) {
                return false;
            }
            int name = work.nameOf(node);
            int a = work.part(choice, 0);
            int b = work.part(choice, 1);
            int c = work.part(choice, 2);
            boolean isInB = isFreeIn(name, b);
            if (isFreeIn(name, a) || isInB == isFreeIn(name, c)) {
                return false;
            }
            int e = work.part(node, 0);
            // The IF's node becomes the LET, so that no new one is needed.
            work.set(choice, Kind.LET, 0, name, 0);
            work.join(choice, e, isInB ? b : c, NONE);
            work.set(node, Kind.IF, 0, 0, 0);
            work.join(node, a, isInB ? choice : b, isInB ? c : choice);
            return true;
        }

        private boolean fuses(int node) {
            int inner = work.part(node, 0);
            int outer = work.part(node, 1);
            if (work.kindOf(node) != Kind.LET || !isCall(inner) || !isCall(outer)) {
                return false;
            }
            int bit = 1 << work.nameOf(node);
            if (namesOf(work.part(outer, 1)) != bit || namesOf(work.part(inner, 1)) == bit) {
                return false;
            }
            int g = work.part(inner, 0);
            int h = fusionOf(work.numberOf(work.part(outer, 0)), work.numberOf(g));
            if (h == NONE) {
                return false;
            }
            work.set(g, Kind.GLOBAL, h, 0, 0);
            work.become(node, inner);
            return true;
        }

        /** What f of g is by the first rule of both; NONE without one. */
        private int fusionOf(int f, int g) {
            for (int rule = 0; rule < rules && rule < MOST_RULES; rule++) {
                if (outers[rule] == f && inners[rule] == g) {
                    return fusions[rule];
                }
            }
            return NONE;
        }

        private boolean isCall(int node) {
            return work.kindOf(node) == Kind.APP && work.kindOf(work.part(node, 0)) == Kind.GLOBAL;
        }
    }

    /** As many records as a run can make at most, one with each step. */
    private static final class Row {
        static final int RECORDS = RUN_STEPS + MOST_SPARKS * SPARK_STEPS;

        final long[] abouts;
        final long[] ones;
        final long[] twos;

        Row() {
            abouts = new long[RECORDS];
            ones = new long[RECORDS];
            twos = new long[RECORDS];
        }
    }

    /** Names with what they are, cells and data: a record each, in rows that are made ahead of runs. */
    private static final class Heap {
        /** What a record is: a cell, found or not yet, one that is its own data, or names that are bound to things. */
        static final int WAITING = 0, BLACK = 1, FOUND = 2, DATA = 3, BOUND = 4;

        /** What abouts tell: the record behind it and one, a node, two names, a centre, and what it is. */
        private static final int NODE_SHIFT = 20, NAME_SHIFT = 32, OTHER_SHIFT = 36, CENTRE_SHIFT = 40,
            STATE_SHIFT = 42;
        private static final int LINK_MASK = 0xFFFFF, NODE_MASK = 0xFFF, NAME_MASK = 0xF, CENTRE_MASK = 0x3;

        private final Program now;
        private final Program begun;
        private final Row[] rows;
        private int manyRows;
        private int start;
        private int next;
        private boolean isKept;

        Heap(Program now, Program begun) {
            this.now = now;
            this.begun = begun;
            rows = new Row[MOST_CALLS];
            manyRows = 0;
            start = 0;
            next = 0;
            isKept = false;
        }

        /** Sees to it ahead of a run that there is place for all that it can make. */
        void prepare() {
            if (!isKept) {
                next = start;
            }
            if (!now.hasFound() && !begun.hasFound()) {
                next = 0;
            }
            if (manyRows * Row.RECORDS - next < Row.RECORDS) {
                makeRow();
            }
            start = next;
            isKept = false;
        }

        private void makeRow() {
            if (manyRows < rows.length) {
                rows[manyRows] = new Row();
                manyRows++;
            } else {
                // Each run makes a row at most, so this is behind the last call that has an answer.
                now.forget();
                begun.forget();
                next = 0;
            }
        }

        /** What this run made stays behind it, if something that was there ahead of it has such a thing now. */
        void keep(long thing) {
            int sort = Thing.sort(thing);
            if ((sort == Thing.LAMBDA || sort == Thing.RECORD) && Thing.low(thing) >= start) {
                isKept = true;
            }
        }

        private Row rowOf(int record) {
            return record >= 0 && record < manyRows * Row.RECORDS ? rows[record / Row.RECORDS] : null;
        }

        private int make(long about, long one, long two) {
            Row row = rowOf(next);
            if (row == null) {
                return NONE;
            }
            int at = next % Row.RECORDS;
            row.abouts[at] = about;
            row.ones[at] = one;
            row.twos[at] = two;
            next++;
            return next - 1;
        }

        private static long about(int link, int name, int other, int state) {
            return (long) state << STATE_SHIFT | (long) other << OTHER_SHIFT | (long) name << NAME_SHIFT | link + 1;
        }

        private long aboutOf(int record) {
            Row row = rowOf(record);
            return row == null ? 0L : row.abouts[record % Row.RECORDS];
        }

        private long oneOf(int record) {
            Row row = rowOf(record);
            return row == null ? Thing.NOTHING : row.ones[record % Row.RECORDS];
        }

        private long twoOf(int record) {
            Row row = rowOf(record);
            return row == null ? Thing.NOTHING : row.twos[record % Row.RECORDS];
        }

        /** The names of env and one more, which hides those of its own name. */
        int bind(int name, long thing, int env) {
            return make(about(env, name, name, BOUND), thing, thing);
        }

        /** The names of env and those of two fields; that of the second one hides that of the first one. */
        int bindFields(int name, int other, int data, int env) {
            return make(about(env, name, other, BOUND), oneOf(data), twoOf(data));
        }

        /** The names of env and one more, whose cell that is; a node is to be found for it with all these names. */
        int makeCell(int name, int node, int centre, int env) {
            long spot = (long) centre << CENTRE_SHIFT | (long) node << NODE_SHIFT;
            return make(about(env, name, name, WAITING) | spot, Thing.NOTHING, Thing.NOTHING);
        }

        /** Data that a CON is, in the record of the cell that has it, or in one of its own for NONE. */
        long makeData(int cell, int con, long first, long second) {
            int record = cell;
            if (cell == NONE) {
                record = make(about(NONE, 0, 0, DATA) | (long) con << NODE_SHIFT, first, second);
            } else {
                write(cell, DATA, first, second);
            }
            return Thing.of(Thing.RECORD, record);
        }

        long lookUp(int name, int env) {
            int at = env;
            for (int turn = 0; turn < MANY_TURNS; turn++) {
                Row row = rowOf(at);
                if (row == null) {
                    break;
                }
                int place = at % Row.RECORDS;
                long about = row.abouts[place];
                if ((about >> OTHER_SHIFT & NAME_MASK) == name) {
                    return about >> STATE_SHIFT == BOUND ? row.twos[place] : Thing.of(Thing.CELL, at);
                }
                if ((about >> NAME_SHIFT & NAME_MASK) == name) {
                    return row.ones[place];
                }
                at = (int) (about & LINK_MASK) - 1;
            }
            return Thing.NOTHING;
        }

        int stateOf(int cell) {
            return (int) (aboutOf(cell) >> STATE_SHIFT);
        }

        boolean isFound(int cell) {
            int state = stateOf(cell);
            return state == FOUND || state == DATA;
        }

        /** What a cell has that was found. */
        long valueOf(int cell) {
            return stateOf(cell) == DATA ? Thing.of(Thing.RECORD, cell) : oneOf(cell);
        }

        /** What is to be found for a cell, or the CON that data is. */
        int nodeOf(int record) {
            return (int) (aboutOf(record) >> NODE_SHIFT) & NODE_MASK;
        }

        int centreOf(int cell) {
            return (int) (aboutOf(cell) >> CENTRE_SHIFT) & CENTRE_MASK;
        }

        void colour(int cell, int state) {
            write(cell, state, oneOf(cell), twoOf(cell));
        }

        void fill(int cell, long thing) {
            write(cell, FOUND, thing, Thing.NOTHING);
            if (cell < start) {
                keep(thing);
            }
        }

        private void write(int cell, int state, long one, long two) {
            Row row = rowOf(cell);
            if (row != null) {
                int at = cell % Row.RECORDS;
                row.abouts[at] = (long) state << STATE_SHIFT | row.abouts[at] & (1L << STATE_SHIFT) - 1;
                row.ones[at] = one;
                row.twos[at] = two;
            }
        }
    }

    /** What waits for the value that is looked for, the last one first. */
    private static final class Frames {
        /** Besides the kinds of nodes: a cell, a global's own cell, and a PRIM whose left part was found. */
        static final int CELL = 16, OWN = 17, RIGHT = 18;

        /** A step waits for at most one value; a spark's cell waits without a step. */
        private static final int MOST = RUN_STEPS + 8;

        private final int[] whats;
        private final int[] nodes;
        private final int[] envs;
        private final int[] centres;
        private final int[] lefts;
        private int size;

        Frames() {
            whats = new int[MOST];
            nodes = new int[MOST];
            envs = new int[MOST];
            centres = new int[MOST];
            lefts = new int[MOST];
            size = 0;
        }

        void clear() {
            size = 0;
        }

        void push(int what, int node, int env, int centre, int left) {
            if (size < MOST) {
                whats[size] = what;
                nodes[size] = node;
                envs[size] = env;
                centres[size] = centre;
                lefts[size] = left;
                size++;
            }
        }

        /** Takes the last one away, which is told of until another one is pushed; false if there is none. */
        boolean pop() {
            if (size <= 0) {
                return false;
            }
            size--;
            return true;
        }

        int what() {
            return size < MOST ? whats[size] : NONE;
        }

        int place() {
            return size < MOST ? nodes[size] : NONE;
        }

        int env() {
            return size < MOST ? envs[size] : NONE;
        }

        int spot() {
            return size < MOST ? centres[size] : 0;
        }

        int left() {
            return size < MOST ? lefts[size] : 0;
        }
    }

    /** Finds nodes, one turn after the other, and counts what is done. */
    private static final class Finder {
        private static final int FIND = 0, LOOK = 1, GIVE = 2, TOSS = 3, LEAVE = 4, REST = 5, DONE = 6;

        private final Heap heap;
        private final Frames frames;
        private final int[] counts;
        private final long[] sparks;
        private int manySparks;
        private int nextSpark;
        private Program program;
        private boolean isShared;
        private boolean isSpark;
        private int interrupt;
        private int steps;
        private int mode;
        private int node;
        private int env;
        private int centre;
        private long found;
        private int result;
        private int answer;

        Finder(Program now, Program begun) {
            heap = new Heap(now, begun);
            frames = new Frames();
            counts = new int[COUNTS];
            sparks = new long[MOST_SPARKS];
            program = now;
            mode = DONE;
            answer = 0;
        }

        int answer() {
            return answer;
        }

        int counted(int what) {
            return what >= 0 && what < COUNTS ? counts[what] : 0;
        }

        int find(Program program, int root, boolean isShared, int interrupt) {
            heap.prepare();
            frames.clear();
            Arrays.fill(counts, 0);
            this.program = program;
            this.isShared = isShared;
            this.interrupt = interrupt;
            manySparks = 0;
            nextSpark = 0;
            isSpark = false;
            steps = 0;
            env = NONE;
            centre = 0;
            result = ENDLESS;
            answer = 0;
            goTo(root);
            for (int turn = 0; turn < MANY_TURNS && mode != DONE; turn++) {
                switch (mode) {
                    case FIND:
                        step();
                        break;
                    case LOOK:
                        lookAt(found);
                        break;
                    case GIVE:
                        give();
                        break;
                    case TOSS:
                        toss();
                        break;
                    case LEAVE:
                        leave();
                        break;
                    default:
                        rest();
                        break;
                }
            }
            return result;
        }

        private void goTo(int part) {
            node = part;
            mode = FIND;
        }

        private void goToThing(long thing) {
            found = thing;
            mode = LOOK;
        }

        private void giveBack(long thing) {
            if (thing == Thing.NOTHING) {
                stop(WRONG);
                return;
            }
            found = thing;
            mode = GIVE;
        }

        private void tossNumber(int number) {
            found = Thing.of(Thing.NUMERAL, number);
            mode = TOSS;
        }

        private void step() {
            if (steps >= (isSpark ? SPARK_STEPS : RUN_STEPS)) {
                stop(ENDLESS);
                return;
            }
            if (!isSpark && steps + 1 == interrupt) {
                stop(INTERRUPTED);
                return;
            }
            countStep();
            int kind = program.code.kindOf(node);
            switch (kind) {
                case Kind.NUM:
                case Kind.LAM:
                case Kind.CON:
                    giveBack(valueOf(node, env, NONE));
                    break;
                case Kind.VAR:
                    goToThing(heap.lookUp(program.code.nameOf(node), env));
                    break;
                case Kind.GLOBAL:
                    goToThing(Thing.of(Thing.GLOBAL, program.code.numberOf(node)));
                    break;
                case Kind.LET:
                    makeLet();
                    break;
                case Kind.PAR:
                    putSpark();
                    break;
                case Kind.CENTRE:
                    centre = program.code.numberOf(node);
                    goTo(program.code.part(node, 0));
                    break;
                default:
                    frames.push(kind, node, env, centre, 0);
                    goTo(program.code.part(node, 0));
                    break;
            }
        }

        private void countStep() {
            steps++;
            if (isSpark) {
                counts[SPARK_COUNT]++;
                return;
            }
            counts[STEPS]++;
            if (centre >= 0 && centre < CENTRES) {
                counts[AT_CENTRE + centre]++;
            }
        }

        /** What a NUM, LAM or CON is, also as the value of a cell, or NONE; NOTHING, if a field of it is. */
        private long valueOf(int value, int around, int cell) {
            Tree code = program.code;
            int kind = code.kindOf(value);
            if (kind == Kind.NUM) {
                return Thing.of(Thing.NUMERAL, code.numberOf(value));
            }
            if (kind == Kind.LAM) {
                return Thing.lambda(value, around);
            }
            int fields = fieldsOf(value);
            long first = fields > 0 ? atom(code.part(value, 0), around) : Thing.NOTHING;
            long second = fields > 1 ? atom(code.part(value, 1), around) : Thing.NOTHING;
            if (fields > 0 && first == Thing.NOTHING || fields > 1 && second == Thing.NOTHING) {
                return Thing.NOTHING;
            }
            return heap.makeData(cell, value, first, second);
        }

        private int fieldsOf(int con) {
            return (program.code.part(con, 0) == NONE ? 0 : 1) + (program.code.part(con, 1) == NONE ? 0 : 1);
        }

        /** What an atom is as it stands, without a step. */
        private long atom(int atom, int around) {
            int kind = program.code.kindOf(atom);
            if (kind == Kind.VAR) {
                return heap.lookUp(program.code.nameOf(atom), around);
            }
            return Thing.of(kind == Kind.NUM ? Thing.NUMERAL : Thing.GLOBAL, program.code.numberOf(atom));
        }

        private void lookAt(long thing) {
            switch (Thing.sort(thing)) {
                case Thing.CELL:
                    lookAtCell(Thing.low(thing));
                    break;
                case Thing.GLOBAL:
                    lookAtOwn(Thing.low(thing));
                    break;
                default:
                    giveBack(thing);
                    break;
            }
        }

        private void lookAtCell(int cell) {
            if (heap.isFound(cell)) {
                giveBack(heap.valueOf(cell));
                return;
            }
            if (heap.stateOf(cell) == Heap.BLACK) {
                stop(LOOP);
                return;
            }
            if (isShared) {
                heap.colour(cell, Heap.BLACK);
                frames.push(Frames.CELL, cell, NONE, 0, 0);
            }
            env = cell;
            centre = heap.centreOf(cell);
            goTo(heap.nodeOf(cell));
        }

        private void lookAtOwn(int global) {
            int root = program.rootOf(global);
            int state = isShared ? program.stateOf(global) : Heap.WAITING;
            if (program.sizeOf(global) == 0) {
                stop(WRONG);
            } else if (Kind.isValue(program.code.kindOf(root))) {
                giveBack(valueOf(root, NONE, NONE));
            } else if (state == Heap.FOUND) {
                giveBack(program.valueOf(global));
            } else if (state == Heap.BLACK) {
                stop(LOOP);
            } else {
                if (isShared) {
                    program.setCell(global, Heap.BLACK, Thing.NOTHING);
                    frames.push(Frames.OWN, global, NONE, 0, 0);
                }
                env = NONE;
                centre = 0;
                goTo(root);
            }
        }

        private void makeLet() {
            Tree code = program.code;
            int e = code.part(node, 0);
            int kind = code.kindOf(e);
            env = heap.makeCell(code.nameOf(node), e, centre, env);
            counts[CELLS]++;
            if (Kind.isValue(kind)) {
                long thing = valueOf(e, env, env);
                if (thing == Thing.NOTHING) {
                    stop(WRONG);
                    return;
                }
                if (kind != Kind.CON) {
                    heap.fill(env, thing);
                }
            }
            goTo(code.part(node, 1));
        }

        private void putSpark() {
            long thing = heap.lookUp(program.code.nameOf(node), env);
            int sort = Thing.sort(thing);
            if (sort == Thing.NO) {
                stop(WRONG);
                return;
            }
            boolean hasCell = sort == Thing.CELL || sort == Thing.GLOBAL;
            if (hasCell && isShared && !isSpark && manySparks < MOST_SPARKS) {
                sparks[manySparks] = thing;
                manySparks++;
            }
            goTo(program.code.part(node, 0));
        }

        /** Gives what was found to the frame that waits for it. */
        private void give() {
            if (!frames.pop()) {
                endWith(found);
                return;
            }
            node = frames.place();
            env = frames.env();
            centre = frames.spot();
            int what = frames.what();
            switch (what) {
                case Frames.CELL:
                    heap.fill(node, found);
                    counts[UPDATES]++;
                    break;
                case Frames.OWN:
                    program.setCell(node, Heap.FOUND, found);
                    heap.keep(found);
                    counts[UPDATES]++;
                    break;
                case Kind.CATCH:
                    break;
                case Kind.SEQ:
                    goTo(program.code.part(node, 1));
                    break;
                case Kind.STRICT:
                    env = heap.bind(program.code.nameOf(node), found, env);
                    goTo(program.code.part(node, 1));
                    break;
                case Kind.APP:
                    giveFunction();
                    break;
                case Kind.MATCH:
                    giveData();
                    break;
                default:
                    giveNumber(what);
                    break;
            }
        }

        private void giveFunction() {
            if (Thing.sort(found) != Thing.LAMBDA) {
                stop(WRONG);
                return;
            }
            long thing = atom(program.code.part(node, 1), env);
            if (thing == Thing.NOTHING) {
                stop(WRONG);
                return;
            }
            int lam = Thing.nodeOf(found);
            env = heap.bind(program.code.nameOf(lam), thing, Thing.low(found));
            goTo(program.code.part(lam, 0));
        }

        private void giveData() {
            if (Thing.sort(found) != Thing.RECORD) {
                stop(WRONG);
                return;
            }
            int data = Thing.low(found);
            if (program.code.numberOf(heap.nodeOf(data)) != program.code.numberOf(node)) {
                goTo(program.code.part(node, 2));
                return;
            }
            // A field that is not there is NOTHING, which hides its name all the same.
            env = heap.bindFields(program.code.nameOf(node), program.code.otherOf(node), data, env);
            goTo(program.code.part(node, 1));
        }

        private void giveNumber(int what) {
            if (Thing.sort(found) != Thing.NUMERAL) {
                stop(WRONG);
                return;
            }
            int number = Thing.low(found);
            switch (what) {
                case Kind.IF:
                    goTo(program.code.part(node, number != 0 ? 1 : 2));
                    break;
                case Kind.PRIM:
                    frames.push(Frames.RIGHT, node, env, centre, number);
                    goTo(program.code.part(node, 1));
                    break;
                case Kind.RAISE:
                    tossNumber(number);
                    break;
                default:
                    operate(frames.left(), number);
                    break;
            }
        }

        private void operate(int left, int right) {
            int operation = program.code.numberOf(node);
            if (isDividingByZero(operation, right)) {
                tossNumber(0);
            } else {
                giveBack(Thing.of(Thing.NUMERAL, operated(operation, left, right)));
            }
        }

        /** Goes back with a raised number, over one frame. */
        private void toss() {
            if (!frames.pop()) {
                if (!isSpark) {
                    result = RAISED;
                    answer = Thing.low(found);
                }
                mode = REST;
                return;
            }
            if (frames.what() == Kind.CATCH) {
                node = frames.place();
                centre = frames.spot();
                env = heap.bind(program.code.nameOf(node), found, frames.env());
                goTo(program.code.part(node, 1));
            } else {
                uncolour();
            }
        }

        /** Leaves the cell of the frame that was taken away, if it is one, as it was ahead. */
        private void uncolour() {
            if (frames.what() == Frames.CELL) {
                heap.colour(frames.place(), Heap.WAITING);
            } else if (frames.what() == Frames.OWN) {
                program.setCell(frames.place(), Heap.WAITING, Thing.NOTHING);
            }
        }

        /** Ends the run, or the spark, which no CATCH holds. */
        private void stop(int how) {
            if (!isSpark) {
                result = how;
            }
            mode = LEAVE;
        }

        /** Goes back over one frame, of whatever kind. */
        private void leave() {
            if (frames.pop()) {
                uncolour();
            } else {
                mode = REST;
            }
        }

        private void endWith(long thing) {
            mode = REST;
            if (isSpark) {
                return;
            }
            switch (Thing.sort(thing)) {
                case Thing.NUMERAL:
                    result = NUMBER;
                    answer = Thing.low(thing);
                    break;
                case Thing.LAMBDA:
                    result = FUNCTION;
                    break;
                default:
                    result = DATA;
                    int con = heap.nodeOf(Thing.low(thing));
                    answer = 10 * program.code.numberOf(con) + fieldsOf(con);
                    break;
            }
        }

        /** Looks at the next spark of a run that has a value. */
        private void rest() {
            boolean hasValue = result == NUMBER || result == FUNCTION || result == DATA;
            if (!hasValue || nextSpark >= manySparks || nextSpark >= MOST_SPARKS) {
                mode = DONE;
                return;
            }
            long thing = sparks[nextSpark];
            nextSpark++;
            isSpark = true;
            steps = 0;
            if (isFound(thing)) {
                counts[FIZZLED]++;
            } else {
                counts[SPARKED]++;
                goToThing(thing);
            }
        }

        private boolean isFound(long thing) {
            int low = Thing.low(thing);
            if (Thing.sort(thing) == Thing.CELL) {
                return heap.isFound(low);
            }
            return program.stateOf(low) == Heap.FOUND
                || program.sizeOf(low) > 0 && Kind.isValue(program.code.kindOf(program.rootOf(low)));
        }
    }
}
