/** Promises 25 to 27: what is needed, sizes, and nodes by their places. */
public final class QuestionsTest {
    private static LazyLoom loom;

    public static void main(String[] args) {
        wrongCalls();
        needed();
        neededOfGlobals();
        neededChanges();
        manyLams();
        size();
        node();
        nodesOfAll();
        Check.end("QuestionsTest");
    }

    private static void wrongCalls() {
        loom = new LazyLoom();
        Words.define(loom, 0, "(lam x0 x0)");
        Check.thrown("promise 25: global 8", Check.ARGUMENT, () -> loom.needed(8, 0));
        Check.thrown("promise 25: global -1", Check.ARGUMENT, () -> loom.needed(-1, 0));
        Check.thrown("promise 25: place -1", Check.ARGUMENT, () -> loom.needed(0, -1));
        Check.thrown("promise 25: place -1 of nothing", Check.ARGUMENT, () -> loom.needed(3, -1));
        Check.due("promise 25: not so many", loom.needed(0, 1), LazyLoom.NONE);
        Check.due("promise 25: by far", loom.needed(0, Integer.MAX_VALUE), LazyLoom.NONE);
        Check.due("promise 25: nothing", loom.needed(1, 0), LazyLoom.NONE);
        Check.thrown("promise 26: global 8", Check.ARGUMENT, () -> loom.size(8, true));
        Check.thrown("promise 26: global -1", Check.ARGUMENT, () -> loom.size(-1, false));
        Check.thrown("promise 26: no beginning", Check.STATE, () -> loom.size(0, true));
        Check.thrown("promise 27: global 8 goes first", Check.ARGUMENT, () -> loom.node(8, 99, 9));
        Check.thrown("promise 27: global -1", Check.ARGUMENT, () -> loom.node(-1, 0, 0));
        Check.thrown("promise 27: no place", Check.INDEX, () -> loom.node(0, 2, 0));
        Check.thrown("promise 27: place -1", Check.INDEX, () -> loom.node(0, -1, 0));
        Check.thrown("promise 27: place ahead of what", Check.INDEX, () -> loom.node(0, 2, 9));
        Check.thrown("promise 27: of nothing", Check.INDEX, () -> loom.node(1, 0, 0));
        Check.thrown("promise 27: place 80", Check.INDEX, () -> loom.node(0, 80, 0));
        Check.thrown("promise 27: the greatest place", Check.INDEX, () -> loom.node(7, Integer.MAX_VALUE, 0));
        Check.thrown("promise 27: what 4", Check.ARGUMENT, () -> loom.node(0, 1, 4));
        Check.thrown("promise 27: what -1", Check.ARGUMENT, () -> loom.node(0, 1, -1));
    }

    /** Whether x0 and x1 of (lam x0 (lam x1 b)) are needed. */
    private static void of(String b, int first, int second) {
        Words.define(loom, 0, "(lam x0 (lam x1 " + b + "))");
        Check.due("promise 25: x0 of " + b, loom.needed(0, 0), first);
        Check.due("promise 25: x1 of " + b, loom.needed(0, 1), second);
        Check.due("promise 25: no third of " + b, loom.needed(0, 2), LazyLoom.NONE);
    }

    private static void needed() {
        loom = new LazyLoom();
        of("1", 0, 0);
        of("x0", 1, 0);
        of("g3", 0, 0);
        of("(con 1 x0 x1)", 0, 0);
        of("(catch x0 x1 x1)", 0, 0);
        of("(raise 1)", 1, 1);
        of("(app x0 x1)", 1, 0);
        of("(app (lam x2 x1) x0)", 0, 0);
        of("(let x2 x0 x2)", 1, 0);
        of("(let x2 x0 x1)", 0, 1);
        of("(let x0 x1 x0)", 0, 1);
        of("(let x0 x0 x0)", 0, 0);
        of("(let x2 (let x3 x0 x3) (+ x2 x1))", 1, 1);
        loom = new LazyLoom();
        of("(match x0 1 x2 x3 1 2)", 1, 0);
        of("(match x0 1 x2 x3 x1 x1)", 1, 1);
        of("(match x0 1 x1 x3 x1 x1)", 1, 0);
        of("(match x0 1 x2 x1 x1 x1)", 1, 0);
        of("(match (con 1) 1 x2 x3 x0 (raise 1))", 1, 0);
        of("(match (con 1) 1 x2 x3 (raise 1) x0)", 1, 0);
        of("(if x0 x1 2)", 1, 0);
        of("(if 1 x0 (+ x1 x0))", 1, 0);
        of("(if 1 (raise 1) x1)", 0, 1);
        of("(+ x0 x1)", 1, 1);
        of("(seq x0 x1)", 1, 1);
        of("(par x0 x1)", 0, 1);
        of("(centre 1 x1)", 0, 1);
        of("(seq (lam x2 x0) x1)", 0, 1);
        Words.define(loom, 1, "(lam x4 (lam x4 x4))");
        Check.due("promise 25: the outer one of a name", loom.needed(1, 0), 0);
        Check.due("promise 25: the inner one of a name", loom.needed(1, 1), 1);
        Words.define(loom, 2, "5");
        Check.due("promise 25: no LAM first", loom.needed(2, 0), LazyLoom.NONE);
        Words.define(loom, 3, "(lam x15 (let x0 1 (lam x1 x15)))");
        Check.due("promise 25: a LAM that is not of the first", loom.needed(3, 1), LazyLoom.NONE);
        Check.due("promise 25: in a LAM", loom.needed(3, 0), 0);
    }

    private static void neededOfGlobals() {
        loom = new LazyLoom();
        Words.define(loom, 1, "(lam x0 (lam x1 (if x0 1 x1)))");
        of("(app (app g1 x0) x1)", 1, 0);
        of("(app (app g1 x1) x0)", 0, 1);
        of("(app g1 x0)", 0, 0);
        of("(app (app (app g1 x0) x1) x1)", 1, 0);
        of("(app (app (app g1 5) x0) x1)", 0, 0);
        of("(app (app g2 x0) x1)", 0, 0);
        // round and round: nothing else is surely found than what all ways out find
        Words.define(loom, 3, "(lam x0 (lam x1 (if x0 (app (app g3 x0) x1) x1)))");
        Check.due("promise 25: itself, first", loom.needed(3, 0), 1);
        Check.due("promise 25: itself, second", loom.needed(3, 1), 1);
        Words.define(loom, 4, "(lam x0 (lam x1 (if x0 (app (app g4 x1) x0) 1)))");
        Check.due("promise 25: turned round, first", loom.needed(4, 0), 1);
        Check.due("promise 25: turned round, second", loom.needed(4, 1), 0);
        Words.define(loom, 5, "(lam x0 (app g6 x0))");
        Words.define(loom, 6, "(lam x0 (app g5 x0))");
        Check.due("promise 25: with no way out", loom.needed(5, 0), 1);
        Check.due("promise 25: with no way out", loom.needed(6, 0), 1);
        Words.define(loom, 7, "(lam x0 (lam x1 (lam x2 (if x0 (app (app (app g7 x0) x2) x1) x2))))");
        Check.due("promise 25: a second round", loom.needed(7, 1), 0);
        Check.due("promise 25: a third round", loom.needed(7, 2), 0);
        Check.due("promise 25: x0 stays", loom.needed(7, 0), 1);
    }

    private static void neededChanges() {
        loom = new LazyLoom();
        Words.define(loom, 0, "(lam x0 (app g1 x0))");
        Check.due("promise 25: g1 is nothing", loom.needed(0, 0), 0);
        Words.define(loom, 1, "(lam x0 (if 1 x0 2))");
        Check.due("promise 25: not needed", loom.needed(0, 0), 0);
        loom.begin();
        Check.due("a pass", loom.pass(LazyLoom.FOLD, 1), 1);
        Check.due("promise 25: needed behind a pass", loom.needed(0, 0), 1);
        Words.define(loom, 1, "(lam x0 2)");
        Check.due("promise 25: not needed behind define()", loom.needed(0, 0), 0);
    }

    /** 79 first LAMs, more than there are names. */
    private static void manyLams() {
        loom = new LazyLoom();
        int node = loom.prim(0, loom.var(3), loom.var(0));
        for (int i = 0; i < 77; i++) {
            node = loom.lam(i % 16, node);
        }
        Check.due("promise 25: 77 LAMs", loom.define(0, node), 80);
        for (int place = 0; place < 77; place++) {
            int name = 76 - place;
            Check.due("promise 25: place " + place, loom.needed(0, place), name == 3 || name == 0 ? 1 : 0);
        }
        Check.due("promise 25: place 77", loom.needed(0, 77), LazyLoom.NONE);
    }

    private static void size() {
        loom = new LazyLoom();
        Check.due("promise 26: nothing", loom.size(0, false), 0);
        Words.define(loom, 0, "(match (con 1 2 3) 1 x0 x1 (app x0 x1) (lam x2 x2))");
        Check.due("promise 26: of now", loom.size(0, false), 9);
        Check.thrown("promise 26: no beginning", Check.STATE, () -> loom.size(0, true));
        loom.begin();
        loom.pass(LazyLoom.KNOWN, 0);
        Check.due("promise 26: of now behind a pass", loom.size(0, false), 3);
        Check.due("promise 26: of the beginning", loom.size(0, true), 9);
        Check.due("promise 26: nothing of the beginning", loom.size(7, true), 0);
    }

    private static void node() {
        loom = new LazyLoom();
        String all = "(lam x1 (let x2 (if x1 (con 1 x1 g3) (con 0)) (match (seq x2 x2) 1 x3 x4 (catch (raise x3) x5 "
            + "(par x2 (centre 2 (app x4 x5)))) (lam x6 (- x6 -9)))))";
        Words.define(loom, 4, all);
        Words.due("promise 27: all kinds", loom, 4, all);
        int[][] rows = {{3, 0, 1, 0}, {5, 0, 2, 0}, {9, 0, 0, 0}, {1, 0, 1, 0}, {7, 1, 0, 0}, {1, 0, 1, 0},
            {2, 3, 0, 0}, {7, 0, 0, 0}, {8, 1, 3, 4}, {11, 0, 0, 0}, {1, 0, 2, 0}, {1, 0, 2, 0}, {13, 0, 5, 0},
            {12, 0, 0, 0}, {1, 0, 3, 0}, {14, 0, 2, 0}, {15, 2, 0, 0}, {4, 0, 0, 0}, {1, 0, 4, 0}, {1, 0, 5, 0},
            {3, 0, 6, 0}, {10, 1, 0, 0}, {1, 0, 6, 0}, {0, -9, 0, 0}};
        Check.due("promise 27: places", loom.size(4, false), rows.length);
        for (int place = 0; place < rows.length; place++) {
            for (int what = 0; what < 4; what++) {
                Check.due("promise 27: " + place + " " + what, loom.node(4, place, what), rows[place][what]);
            }
        }
        Words.define(loom, 0, "(let x7 (+ 1 2) (+ x7 x7))");
        loom.pass(LazyLoom.STRICTLY, 0);
        Check.due("promise 27: STRICT", loom.node(0, 0, 0), 6);
        Check.due("promise 27: its name", loom.node(0, 0, 2), 7);
        Check.due("promise 27: its number", loom.node(0, 0, 1), 0);
    }

    /** A node that is told once has a place for each time it stands in the expression. */
    private static void nodesOfAll() {
        loom = new LazyLoom();
        int one = loom.num(1);
        int sum = loom.prim(0, one, one);
        Check.due("promise 27: shared", loom.define(0, loom.seq(sum, sum)), 7);
        Words.due("promise 27: shared", loom, 0, "(seq (+ 1 1) (+ 1 1))");
        loom.pass(LazyLoom.FOLD, 0);
        Words.due("promise 27: shared and folded", loom, 0, "2");
        Words.define(loom, 0, "(if g1 (+ 1 1) (+ 1 1))");
        Check.due("promise 27: each is folded", loom.pass(LazyLoom.FOLD, 0), 2);
        Words.due("promise 27: each is folded", loom, 0, "(if g1 2 2)");
        Check.due("promise 27: what was told stays", loom.define(1, sum), 3);
    }
}
