/**
 * Promises 1 to 20 and 25 to 27, and the sections "The core", "Demand" and "Passes", a test for each sentence that
 * names a boundary: each says the sentence, and looks at both of its sides.
 */
public final class EdgesOfProgramsTest {
    private static final int NONE = LazyLoom.NONE;

    private static LazyLoom loom;

    public static void main(String[] args) {
        numberedFromZero();
        earlierOnes();
        atomsAlone();
        freeNames();
        allNames();
        eightyNodes();
        countedAsOften();
        eightGlobals();
        eightRules();
        ruleOrder();
        eightyNodesAndPasses();
        eightyNodesBehindInline();
        twelveNodes();
        reached();
        onceForEachNode();
        foldedNumbers();
        fieldsThatAreNotThere();
        binders();
        firstLams();
        atomsOfGlobals();
        roundAndRound();
        manyRounds();
        aheadOfThePass();
        places();
        Check.end("EdgesOfProgramsTest");
    }

    /** "nodes that are told are numbered from 0, at most 200". */
    private static void numberedFromZero() {
        loom = new LazyLoom();
        Check.due("promise 2: the first one", loom.num(1), 0);
        for (int i = 1; i < 200; i++) {
            Check.due("promise 13: the next one", loom.raise(i - 1), i);
        }
        for (int i = 0; i < 3; i++) {
            Check.thrown("promise 13: the 201st", Check.STATE, () -> loom.raise(199));
            Check.thrown("promise 2: the 201st", Check.STATE, () -> loom.num(1));
        }
        Check.thrown("promise 13: there is no 200", Check.INDEX, () -> loom.raise(200));
        Check.due("promise 17: the last one with at most 80 nodes", loom.define(0, 79), 80);
        Check.thrown("promise 17: the next one", Check.STATE, () -> loom.define(0, 80));
        Check.thrown("promise 17: the 200th", Check.STATE, () -> loom.define(0, 199));
        Check.thrown("promise 17: there is no 200", Check.INDEX, () -> loom.define(0, 200));
    }

    /** "and made of earlier ones": a node is no part of itself, nor is one that comes later. */
    private static void earlierOnes() {
        loom = new LazyLoom();
        for (int told = 0; told < 4; told++) {
            for (int node : new int[] {told, told + 1, 199, -1}) {
                Check.thrown("promise 5", Check.INDEX, () -> loom.lam(0, node));
                Check.thrown("promise 6", Check.INDEX, () -> loom.app(node, node));
                Check.thrown("promise 7", Check.INDEX, () -> loom.let(0, node, node));
                Check.thrown("promise 9", Check.INDEX, () -> loom.match(node, 0, 0, 0, node, node));
                Check.thrown("promise 10", Check.INDEX, () -> loom.choose(node, node, node));
                Check.thrown("promise 11", Check.INDEX, () -> loom.prim(0, node, node));
                Check.thrown("promise 12", Check.INDEX, () -> loom.seq(node, node));
                Check.thrown("promise 13", Check.INDEX, () -> loom.raise(node));
                Check.thrown("promise 14", Check.INDEX, () -> loom.hold(node, 0, node));
                Check.thrown("promise 15", Check.INDEX, () -> loom.par(0, node));
                Check.thrown("promise 16", Check.INDEX, () -> loom.centre(0, node));
                if (node != NONE) {
                    Check.thrown("promise 8", Check.INDEX, () -> loom.con(0, node, NONE));
                }
            }
            Check.due("promise 2: told", loom.num(told), told);
        }
    }

    /** "Atoms are NUM, VAR and GLOBAL." */
    private static void atomsAlone() {
        loom = new LazyLoom();
        int n = loom.num(1);
        int[] atoms = {n, loom.var(15), loom.global(7)};
        int[] others = {loom.lam(0, n), loom.app(n, n), loom.let(0, n, n), loom.con(0, NONE, NONE),
            loom.match(n, 0, 0, 0, n, n), loom.choose(n, n, n), loom.prim(0, n, n), loom.seq(n, n), loom.raise(n),
            loom.hold(n, 0, n), loom.par(0, n), loom.centre(0, n)};
        for (int other : others) {
            Check.thrown("promise 6: a is no atom", Check.ARGUMENT, () -> loom.app(n, other));
            Check.thrown("promise 8: first is no atom", Check.ARGUMENT, () -> loom.con(0, other, NONE));
            Check.thrown("promise 8: first is no atom", Check.ARGUMENT, () -> loom.con(0, other, n));
            Check.thrown("promise 8: second is no atom", Check.ARGUMENT, () -> loom.con(0, n, other));
            Check.thrown("promise 8: without first", Check.ARGUMENT, () -> loom.con(0, NONE, other));
            Check.due("promise 6: f is any node", loom.app(other, n) > 0 ? 1 : 0, 1);
        }
        for (int atom : atoms) {
            Check.due("promise 6: an atom", loom.app(n, atom) > 0 ? 1 : 0, 1);
            Check.thrown("promise 8: without first", Check.ARGUMENT, () -> loom.con(0, NONE, atom));
            for (int second : atoms) {
                Check.due("promise 8: two atoms", loom.con(3, atom, second) > 0 ? 1 : 0, 1);
            }
        }
    }

    private static void isClosed(String text, boolean isClosed) {
        loom = new LazyLoom();
        int node = Words.of(text).tell(loom);
        if (isClosed) {
            Check.due("promise 17: no free names: " + text, loom.define(0, node) > 0 ? 1 : 0, 1);
        } else {
            Check.thrown("promise 17: free names: " + text, Check.STATE, () -> loom.define(0, node));
            Check.due("promise 17: nothing is written", loom.size(0, false), 0);
        }
    }

    /** "each an expression without free names": where each node binds its name, and where it does not. */
    private static void freeNames() {
        for (String name : new String[] {"x0", "x7", "x15"}) {
            String other = name.equals("x7") ? "x8" : "x7";
            isClosed(name, false);
            isClosed("(par " + name + " 1)", false);
            isClosed("(con 0 " + name + ")", false);
            isClosed("(con 0 1 " + name + ")", false);
            isClosed("(app 1 " + name + ")", false);
            String[] binders = {"(lam X Y)", "(let X Y 1)", "(let X 1 Y)", "(match 1 0 X Z Y 1)", "(match 1 0 Z X Y 1)",
                "(match 1 0 X X Y 1)", "(catch 1 X Y)"};
            for (String binder : binders) {
                String text = binder.replace("X", name).replace("Z", other);
                isClosed(text.replace("Y", name), true);
                isClosed(text.replace("Y", "(par " + name + " 1)"), true);
                isClosed(text.replace("Y", "(lam x3 (con 0 x3 " + name + "))"), true);
                isClosed(binder.replace("X", other).replace("Z", other).replace("Y", name), false);
                isClosed("(seq " + text.replace("Y", name) + " " + name + ")", false);
            }
            isClosed("(match " + name + " 0 " + name + " x3 1 1)", false);
            isClosed("(match 1 0 " + name + " x3 1 " + name + ")", false);
            isClosed("(match 1 0 x3 " + name + " 1 " + name + ")", false);
            isClosed("(catch " + name + " " + name + " 1)", false);
        }
    }

    /** "Names are 0 to 15." */
    private static void allNames() {
        loom = new LazyLoom();
        int sum = loom.num(0);
        for (int name = 0; name < 16; name++) {
            sum = loom.prim(0, sum, loom.var(name));
        }
        for (int name = 15; name >= 0; name--) {
            sum = loom.let(name, loom.num(1 << name), sum);
        }
        Check.due("promise 17: 16 names", loom.define(0, sum), 65);
        Check.due("promise 21: each is its own", loom.run(0, 0, 0, 0, 0, false), LazyLoom.NUMBER);
        Check.due("promise 23: each is its own", loom.value(), 65535);
        Check.due("promise 20: all are needed", loom.pass(LazyLoom.STRICTLY, 0), 16);
        Check.due("promise 20: none can be left", loom.pass(LazyLoom.DEAD, 0), 0);
        Check.due("promise 21: all are strict", loom.run(0, 0, 0, 0, 0, false), LazyLoom.NUMBER);
        Check.due("promise 23: all are strict", loom.value(), 65535);
        Check.due("promise 24: without a cell", loom.count(1), 0);
        loom = new LazyLoom();
        int node = loom.raise(loom.num(1));
        for (int name = 15; name >= 0; name--) {
            node = loom.lam(name, node);
        }
        loom.define(1, node);
        for (int place = 0; place < 16; place++) {
            Check.due("promise 25: RAISE needs all", loom.needed(1, place), 1);
        }
        Check.due("promise 25: there are 16", loom.needed(1, 16), NONE);
    }

    private static String raises(int many, String last) {
        StringBuilder all = new StringBuilder(last);
        for (int i = 0; i < many; i++) {
            all.insert(0, "(raise ").append(')');
        }
        return all.toString();
    }

    /** "at most 80 of them"; "if it has .. more than 80 nodes"; free names are refused whatever their number. */
    private static void eightyNodes() {
        for (int many : new int[] {1, 79, 80}) {
            loom = new LazyLoom();
            Check.due("promise 17: " + many, Words.define(loom, 7, raises(many - 1, "1")), many);
            Check.due("promise 26: " + many, loom.size(7, false), many);
            loom.begin();
            Check.due("promise 26: of the beginning", loom.size(7, true), many);
        }
        loom = new LazyLoom();
        Words.define(loom, 7, "5");
        int more = Words.of(raises(80, "1")).tell(loom);
        int free = Words.of(raises(80, "x0")).tell(loom);
        Check.thrown("promise 17: 81 nodes", Check.STATE, () -> loom.define(7, more));
        Check.thrown("promise 17: 81 nodes and a free name", Check.STATE, () -> loom.define(7, free));
        Words.due("promise 17: it stays", loom, 7, "5");
    }

    /** "counted as often as they stand in it". */
    private static void countedAsOften() {
        loom = new LazyLoom();
        int one = loom.num(1);
        int three = loom.prim(0, one, one);
        int seven = loom.seq(three, three);
        int many = loom.choose(seven, seven, seven);
        Check.due("promise 17: three times seven", loom.define(0, many), 22);
        int more = loom.match(many, 0, 0, 0, many, many);
        Check.due("promise 17: three times 22", loom.define(1, more), 67);
        int left = loom.seq(three, loom.seq(three, three));
        Check.due("promise 17: 11 more", loom.define(2, left), 11);
        int most = loom.raise(loom.seq(more, loom.seq(three, seven)));
        Check.due("promise 17: 80", loom.define(3, most), 80);
        int over = loom.raise(most);
        Check.thrown("promise 17: 81", Check.STATE, () -> loom.define(3, over));
        int node = loom.num(2);
        for (int i = 0; i < 60; i++) {
            node = loom.match(node, 0, 0, 0, node, node);
        }
        int huge = node;
        Check.thrown("promise 17: 3 to the 60th", Check.STATE, () -> loom.define(3, huge));
        Check.due("promise 26: it stays", loom.size(3, false), 80);
    }

    /** "Programs have the globals 0 to 7, each an expression .., or nothing"; begin() tells "how many .. are something". */
    private static void eightGlobals() {
        loom = new LazyLoom();
        for (int g = 7; g >= 0; g--) {
            Check.due("promise 19: so many", loom.begin(), 7 - g);
            Check.due("promise 26: nothing of the beginning", loom.size(g, true), 0);
            Check.due("promise 17: another one", Words.define(loom, g, raises(g, "1")), g + 1);
            Check.due("promise 26: still nothing of the beginning", loom.size(g, true), 0);
        }
        Check.due("promise 19: all", loom.begin(), 8);
        for (int g = 0; g < 8; g++) {
            Check.due("promise 26: of now", loom.size(g, false), g + 1);
            Check.due("promise 26: of the beginning", loom.size(g, true), g + 1);
        }
        Check.due("promise 19: as often as one likes", loom.begin(), 8);
    }

    /** "if there are 8": the 8th rule is told, and fits, the 9th is not. */
    private static void eightRules() {
        loom = new LazyLoom();
        for (int i = 0; i < 8; i++) {
            Check.due("promise 18: so many", loom.rule(i, 7 - i, (i + 1) % 8), i + 1);
        }
        for (int i = 0; i < 3; i++) {
            Check.thrown("promise 18: full", Check.STATE, () -> loom.rule(0, 0, 7));
        }
        for (int i = 0; i < 8; i++) {
            Words.define(loom, 0, "(let x0 (app g" + (7 - i) + " 5) (app g" + i + " x0))");
            Check.due("promise 20: rule " + i, loom.pass(LazyLoom.FUSE, 0), 1);
            Words.due("promise 20: rule " + i, loom, 0, "(app g" + (i + 1) % 8 + " 5)");
        }
        Words.define(loom, 0, "(let x0 (app g0 5) (app g0 x0))");
        Check.due("promise 18: the 9th is none", loom.pass(LazyLoom.FUSE, 0), 0);
        loom = new LazyLoom();
        for (int i = 0; i < 8; i++) {
            Check.due("promise 18: the same one again", loom.rule(7, 7, 7), i + 1);
        }
        Check.thrown("promise 18: full of one", Check.STATE, () -> loom.rule(7, 7, 7));
    }

    /** "Of several rules the first one counts." */
    private static void ruleOrder() {
        loom = new LazyLoom();
        Words.define(loom, 0, "(let x0 (app g2 5) (app g1 x0))");
        Check.due("promise 20: no rule", loom.pass(LazyLoom.FUSE, 0), 0);
        loom.rule(2, 1, 3);
        loom.rule(1, 1, 4);
        loom.rule(2, 2, 5);
        Check.due("promise 20: rules of others", loom.pass(LazyLoom.FUSE, 0), 0);
        loom.rule(1, 2, 6);
        loom.rule(1, 2, 7);
        Check.due("promise 20: two rules", loom.pass(LazyLoom.FUSE, 0), 1);
        Words.due("promise 20: the first one", loom, 0, "(app g6 5)");
        // g, h and a may be anything; what is none of them stays
        Words.define(loom, 0, "(lam x1 (let x0 (app g2 x1) (app g1 x0)))");
        Check.due("promise 20: a VAR", loom.pass(LazyLoom.FUSE, 0), 1);
        Words.define(loom, 0, "(lam x0 (let x0 (app g2 x0) (app g1 x0)))");
        Check.due("promise 20: a is VAR x", loom.pass(LazyLoom.FUSE, 0), 0);
    }

    private static void passKeepsEighty(int pass, String part, int nodes, String behind) {
        loom = new LazyLoom();
        loom.rule(1, 2, 3);
        Words.define(loom, 0, raises(80 - nodes, part));
        Check.due("promise 26: ahead of " + pass, loom.size(0, false), 80);
        Check.due("promise 20: pass " + pass + " in 80 nodes", loom.pass(pass, 0), 1);
        Words.due("promise 20: pass " + pass + " in 80 nodes", loom, 0, raises(80 - nodes, behind));
    }

    /** All passes go over expressions of 80 nodes, and what they bring is counted as it stands behind them. */
    private static void eightyNodesAndPasses() {
        passKeepsEighty(LazyLoom.FOLD, "(+ 1 2)", 3, "3");
        passKeepsEighty(LazyLoom.DEAD, "(let x0 1 2)", 3, "2");
        passKeepsEighty(LazyLoom.BETA, "(app (lam x0 (app (app x0 x0) x0)) 2)", 8, "(app (app 2 2) 2)");
        passKeepsEighty(LazyLoom.KNOWN, "(match (con 1 2 3) 1 x0 x1 (+ (+ x0 x0) (+ x1 x1)) 4)", 12,
            "(+ (+ 2 2) (+ 3 3))");
        passKeepsEighty(LazyLoom.ONCE, "(let x0 (+ 1 2) (- x0 4))", 7, "(- (+ 1 2) 4)");
        passKeepsEighty(LazyLoom.STRICTLY, "(let x0 (+ 1 2) x0)", 5, "(strict x0 (+ 1 2) x0)");
        passKeepsEighty(LazyLoom.FLOAT, "(let x0 (+ 1 2) (if 3 x0 4))", 8, "(if 3 (let x0 (+ 1 2) x0) 4)");
        passKeepsEighty(LazyLoom.FUSE, "(let x0 (app g2 4) (app g1 x0))", 7, "(app g3 4)");
        // of one node
        for (int pass = 0; pass < 9; pass++) {
            loom = new LazyLoom();
            Words.define(loom, 0, "g0");
            Check.due("promise 20: pass " + pass + " of one node", loom.pass(pass, 0), 0);
        }
    }

    /** "If the expression would have more than 80 nodes behind the pass, nothing is written", and it tells NONE. */
    private static void eightyNodesBehindInline() {
        for (int size = 3; size <= 12; size++) {
            // so many nodes ahead that 2 calls make 80, and one more makes 81
            int others = 80 - 2 * (size - 1);
            for (int more = 0; more <= 1; more++) {
                loom = new LazyLoom();
                Words.define(loom, 1, "(lam x0 " + raises(size - 2, "x0") + ")");
                Words.define(loom, 0, raises(others - 7 + more, "(seq (app g1 2) (app g1 2))"));
                Words.define(loom, 2, "(+ g0 1)");
                int ahead = loom.size(0, false);
                loom.needed(1, 0);
                Check.due("promise 20: " + (80 + more) + " nodes", loom.pass(LazyLoom.INLINE, 0), more == 0 ? 2 : NONE);
                Check.due("promise 26: behind it", loom.size(0, false), more == 0 ? 80 : ahead);
                Check.due("promise 20: once more", loom.pass(LazyLoom.INLINE, 0), more == 0 ? 0 : NONE);
            }
        }
        // parts that are dropped are none behind the pass, but INLINE drops nothing: all calls count
        loom = new LazyLoom();
        Words.define(loom, 1, "(lam x0 " + raises(10, "x0") + ")");
        StringBuilder calls = new StringBuilder("(app g1 1)");
        for (int i = 1; i < 20; i++) {
            calls = new StringBuilder("(seq (app g1 1) ").append(calls).append(')');
        }
        Words.define(loom, 0, calls.toString());
        Check.due("promise 20: 20 calls of 12 nodes", loom.pass(LazyLoom.INLINE, 0), NONE);
        Words.due("promise 20: nothing is written", loom, 0, calls.toString());
    }

    /** "INLINE: GLOBAL g as the f of an APP, whose expression is a LAM, has at most 12 nodes". */
    private static void twelveNodes() {
        for (int size = 2; size <= 14; size++) {
            loom = new LazyLoom();
            String lam = "(lam x0 " + raises(size - 2, "x0") + ")";
            Check.due("promise 17: so many", Words.define(loom, 1, lam), size);
            Words.define(loom, 0, "(app g1 2)");
            Check.due("promise 20: " + size + " nodes", loom.pass(LazyLoom.INLINE, 0), size <= 12 ? 1 : 0);
            Words.due("promise 20: " + size + " nodes", loom, 0, "(app " + (size <= 12 ? lam : "g1") + " 2)");
        }
        for (String none : new String[] {"7", "(con 0)", "(seq 1 (lam x0 x0))", "(let x0 1 (lam x1 x0))", "g3"}) {
            loom = new LazyLoom();
            Words.define(loom, 1, none);
            Words.define(loom, 3, "(lam x0 x0)");
            Words.define(loom, 0, "(app g1 2)");
            Check.due("promise 20: no LAM", loom.pass(LazyLoom.INLINE, 0), 0);
        }
    }

    /** "and from which g cannot be reached by GLOBALs": by itself, or by way of up to all the others. */
    private static void reached() {
        for (int length = 1; length <= 7; length++) {
            for (int closed = 0; closed <= 1; closed++) {
                loom = new LazyLoom();
                for (int g = 1; g <= length; g++) {
                    boolean isLast = g == length;
                    Words.define(loom, g, "(lam x0 (con 0 x0 " + (!isLast ? "g" + (g + 1) : closed == 1 ? "g1" : "1") + "))");
                }
                Words.define(loom, 0, "(app g1 2)");
                Check.due("promise 20: round of " + length, loom.pass(LazyLoom.INLINE, 0), closed == 1 ? 0 : 1);
            }
        }
        loom = new LazyLoom();
        Words.define(loom, 1, "(lam x0 (app g2 x0))");
        Words.define(loom, 2, "(lam x0 (app g2 x0))");
        Words.define(loom, 0, "(seq (app g1 1) (app g2 1))");
        Check.due("promise 20: what it reaches may reach itself", loom.pass(LazyLoom.INLINE, 0), 1);
        Words.due("promise 20: that alone stays", loom, 0, "(seq (app (lam x0 (app g2 x0)) 1) (app g2 1))");
    }

    private static void makes(int pass, String ahead, int written, String behind) {
        loom = new LazyLoom();
        String lams = "(lam x0 (lam x1 (lam x2 (lam x3 ";
        Words.define(loom, 7, lams + ahead + "))))");
        Check.due("promise 20: " + ahead, loom.pass(pass, 7), written);
        Words.due("promise 20: " + ahead, loom, 7, lams + behind + "))))");
    }

    /** "its parts first, from left to right, then itself; .. written anew, and counted, once for each node". */
    private static void onceForEachNode() {
        makes(LazyLoom.FOLD, "(+ (+ 1 2) (+ 3 4))", 3, "10");
        makes(LazyLoom.FOLD, "(if 1 (if 1 (if 0 2 3) 4) (+ 5 6))", 4, "3");
        makes(LazyLoom.FOLD, "(seq (seq 1 (lam x0 x0)) (seq 2 (+ x0 1)))", 3, "(+ x0 1)");
        // a node that is written anew is not looked at once more
        makes(LazyLoom.BETA, "(app (lam x0 (app (lam x0 x0) x0)) 1)", 2, "1");
        makes(LazyLoom.BETA, "(app (app (lam x0 (lam x1 (app (lam x2 x2) x0))) 1) 2)", 3, "1");
        makes(LazyLoom.DEAD, "(let x4 1 (let x5 x4 (let x6 x5 2)))", 3, "2");
        makes(LazyLoom.ONCE, "(let x4 (+ x0 1) (let x5 (+ x4 2) (let x6 (+ x5 3) x6)))", 3, "(+ (+ (+ x0 1) 2) 3)");
        makes(LazyLoom.FLOAT, "(let x4 1 (if x0 (if x1 x4 2) 3))", 1, "(if x0 (let x4 1 (if x1 x4 2)) 3)");
        makes(LazyLoom.KNOWN, "(match (match (con 1 2) 1 x4 x5 (con 3 x4) 0) 3 x6 x7 x6 9)", 2, "2");
        makes(LazyLoom.KNOWN, "(match (con 0) 0 x4 x5 (match (con 1) 0 x6 x7 1 2) 3)", 2, "2");
    }

    /** "FOLD: PRIM of two NUMs, but dividing by 0: its number", which wraps around as runs do. */
    private static void foldedNumbers() {
        int[] some = {Integer.MIN_VALUE, -7, -1, 0, 1, 2, 65537, Integer.MAX_VALUE};
        String[] operations = {"+", "-", "*", "<", "/"};
        for (int a : some) {
            for (int b : some) {
                int[] due = {a + b, a - b, a * b, a < b ? 1 : 0, b == 0 ? 0 : (int) ((long) a / b)};
                for (int o = 0; o < 5; o++) {
                    boolean isLeft = o == 4 && b == 0;
                    String text = "(" + operations[o] + " " + a + " " + b + ")";
                    loom = new LazyLoom();
                    Words.define(loom, 0, text);
                    Check.due("promise 20: " + text, loom.pass(LazyLoom.FOLD, 0), isLeft ? 0 : 1);
                    Words.due("promise 20: " + text, loom, 0, isLeft ? text : "" + due[o]);
                }
            }
        }
        for (int e : new int[] {Integer.MIN_VALUE, -1, 0, 1, Integer.MAX_VALUE}) {
            makes(LazyLoom.FOLD, "(if " + e + " x0 x1)", 1, e == 0 ? "x1" : "x0");
        }
    }

    /** "a field that is not there is put nowhere, but its name must not be free in b then". */
    private static void fieldsThatAreNotThere() {
        String[] fields = {"", " x0", " x0 x1"};
        String[] bs = {"2", "x4", "x5", "(+ x4 x5)", "(par x4 2)", "(par x5 2)", "(lam x4 x4)", "(lam x5 (par x5 x5))"};
        String[] behind = {"2", "x0", "x1", "(+ x0 x1)", "", "", "(lam x4 x4)", "(lam x5 (par x5 x5))"};
        boolean[] hasX = {false, true, false, true, true, false, false, false};
        boolean[] hasY = {false, false, true, true, false, true, false, false};
        for (int many = 0; many <= 2; many++) {
            for (int i = 0; i < bs.length; i++) {
                String text = "(match (con 3" + fields[many] + ") 3 x4 x5 " + bs[i] + " 9)";
                boolean isPut = !bs[i].startsWith("(par") && (many > 0 || !hasX[i]) && (many > 1 || !hasY[i]);
                makes(LazyLoom.KNOWN, text, isPut ? 1 : 0, isPut ? behind[i] : text);
                // other tags: c, whatever b is
                makes(LazyLoom.KNOWN, text.replace(") 3 x4", ") 0 x4"), 1, "9");
                // x and y alike
                String alike = text.replace("3 x4 x5", "3 x4 x4").replace("x5", "x4");
                makes(LazyLoom.KNOWN, alike, 0, alike);
            }
        }
        String[] varX = {"(con 3 x2)", "(con 3 x2 1)", "(con 3 1 x2)"};
        for (String con : varX) {
            String text = "(match " + con + " 3 x2 x5 1 9)";
            makes(LazyLoom.KNOWN, text, 0, text);
            makes(LazyLoom.KNOWN, text.replace("x2 x5", "x5 x4"), 1, "1");
        }
        makes(LazyLoom.KNOWN, "(match (con 3 x3 x3) 3 x2 x3 (+ x2 x3) 9)", 1, "(+ x3 x3)");
        makes(LazyLoom.KNOWN, "(match (con 3 x3 1) 3 x2 x3 (+ x2 x3) 9)", 1, "(+ x3 1)");
    }

    /** "(LAM binds in its b, LET in both, STRICT in its b, MATCH x and y in its b, CATCH in its b. ..)". */
    private static void binders() {
        String[] caught = {"(lam x1 Y)", "(let x1 Y 2)", "(let x1 2 Y)", "(match 2 0 x1 x2 Y 3)", "(match 2 0 x2 x1 Y 3)",
            "(catch 2 x1 Y)", "(lam x2 (+ 1 (lam x1 (+ 2 Y))))"};
        String[] free = {"(match Y 0 x1 x1 2 3)", "(match 2 0 x1 x1 2 Y)", "(catch Y x1 2)", "(seq (lam x1 x1) Y)",
            "(lam x2 Y)", "(let x2 Y Y)", "(if Y (lam x1 2) Y)", "(par x1 Y)"};
        for (String b : caught) {
            String text = "(app (lam x0 " + b.replace("Y", "x0") + ") x1)";
            makes(LazyLoom.BETA, text, 0, text);
            makes(LazyLoom.BETA, text.replace(") x1)", ") 5)"), 1, b.replace("Y", "5"));
            makes(LazyLoom.BETA, text.replace(") x1)", ") g1)"), 1, b.replace("Y", "g1"));
            makes(LazyLoom.BETA, text.replace(") x1)", ") x3)"), 1, b.replace("Y", "x3"));
            String own = "(app (lam x1 " + b.replace("Y", "x1") + ") x1)";
            makes(LazyLoom.BETA, own, 1, b.replace("Y", "x1"));
        }
        for (String b : free) {
            makes(LazyLoom.BETA, "(app (lam x0 " + b.replace("Y", "x0") + ") x1)", 1, b.replace("Y", "x1"));
        }
        // no PAR of x is free in b
        makes(LazyLoom.BETA, "(app (lam x0 (par x0 2)) 5)", 0, "(app (lam x0 (par x0 2)) 5)");
        makes(LazyLoom.BETA, "(app (lam x0 (lam x0 (par x0 2))) 5)", 1, "(lam x0 (par x0 2))");
        makes(LazyLoom.BETA, "(app (lam x0 (par x1 x0)) 5)", 1, "(par x1 5)");
        // "in a part of which such a VAR x stands": a name that is bound where no VAR x stands does not matter
        makes(LazyLoom.BETA, "(app (lam x0 (lam x1 (lam x0 x0))) x1)", 1, "(lam x1 (lam x0 x0))");
        makes(LazyLoom.BETA, "(app (lam x0 2) x1)", 1, "2");
    }

    /** Of global 0 in a new loom, beside some others. */
    private static int needed(String expression, int place, String... others) {
        loom = new LazyLoom();
        Words.define(loom, 0, expression);
        for (int i = 0; i < others.length; i++) {
            Words.define(loom, 1 + i, others[i]);
        }
        return loom.needed(0, place);
    }

    /** "The first LAMs of a global are ..., as long as these are LAMs"; "NONE if there are not so many". */
    private static void firstLams() {
        loom = new LazyLoom();
        Check.due("promise 25: of nothing", loom.needed(0, 0), NONE);
        for (int lams = 0; lams <= 5; lams++) {
            StringBuilder text = new StringBuilder("x0");
            for (int i = 0; i < lams; i++) {
                text.insert(0, "(lam x" + (lams - 1 - i) + " ").append(')');
            }
            Words.define(loom, 0, lams == 0 ? "7" : text.toString());
            for (int place = 0; place <= 6; place++) {
                Check.due("promise 25: " + lams, loom.needed(0, place), place >= lams ? NONE : place == 0 ? 1 : 0);
            }
            Check.due("promise 25: by far", loom.needed(0, Integer.MAX_VALUE), NONE);
            Check.thrown("promise 25: below 0", Check.ARGUMENT, () -> loom.needed(0, -1));
        }
        Check.due("promise 25: a LAM in something", needed("(lam x0 (seq x0 (lam x1 x1)))", 1), NONE);
        Check.due("promise 25: (only the inner one)", needed("(lam x0 (lam x0 x0))", 0), 0);
        Check.due("promise 25: (only the inner one)", needed("(lam x0 (lam x0 x0))", 1), 1);
        Check.due("promise 25: neither", needed("(lam x0 (lam x0 1))", 1), 0);
        Check.due("promise 25: RAISE, the outer one", needed("(lam x0 (lam x0 (raise 1)))", 0), 0);
        Check.due("promise 25: RAISE, the inner one", needed("(lam x0 (lam x0 (raise 1)))", 1), 1);
    }

    /** "if it is a GLOBAL on k atoms, .. those atoms that are VARs .. of the first LAMs .., if these are at most k". */
    private static void atomsOfGlobals() {
        String[] others = {"(lam x0 x0)", "(lam x0 (lam x1 (+ x0 x1)))",
            "(lam x0 (lam x1 (lam x2 (+ x0 (+ x1 x2)))))", "(raise 1)", "(lam x3 (lam x3 x3))"};
        for (int lams = 1; lams <= 3; lams++) {
            for (int atoms = 1; atoms <= 4; atoms++) {
                for (int place = 0; place < atoms; place++) {
                    StringBuilder call = new StringBuilder("g" + lams);
                    for (int i = 0; i < atoms; i++) {
                        call.insert(0, "(app ").append(i == place ? " x0)" : " 5)");
                    }
                    int due = lams <= atoms && place < lams ? 1 : 0;
                    Check.due("promise 25: " + call, needed("(lam x0 " + call + ")", 0, others), due);
                }
            }
        }
        Check.due("promise 25: no first LAMs", needed("(lam x0 (app g4 x0))", 0, others), 0);
        Check.due("promise 25: nothing", needed("(lam x0 (app g7 x0))", 0, others), 0);
        Check.due("promise 25: no GLOBAL", needed("(lam x0 (app (seq 1 g1) x0))", 0, others), 0);
        Check.due("promise 25: those of its f", needed("(lam x0 (app (seq x0 g1) 1))", 0, others), 1);
        Check.due("promise 25: of an f with an atom", needed("(lam x0 (app (app (seq x0 g1) 1) 2))", 0, others), 1);
        Check.due("promise 25: a GLOBAL alone", needed("(lam x0 g1)", 0, others), 0);
        Check.due("promise 25: an atom that is a GLOBAL", needed("(lam x0 (app g1 g1))", 0, others), 0);
        Check.due("promise 25: for the outer one", needed("(lam x0 (app (app g5 x0) 1))", 0, others), 0);
        Check.due("promise 25: for the inner one", needed("(lam x0 (app (app g5 1) x0))", 0, others), 1);
    }

    /** "looked again and again": 40 times, in which one name after the other goes away, or none does. */
    private static void manyRounds() {
        for (int first = 0; first <= 1; first++) {
            loom = new LazyLoom();
            int[] names = new int[10];
            for (int x = 0; x < 10; x++) {
                names[x] = loom.var(x);
            }
            int one = loom.num(1);
            for (int g = 0; g < 4; g++) {
                // each name is what the one ahead of it is in the call of itself; the first one, in that of the global ahead
                int again = loom.global(g);
                for (int x = 1; x <= 10; x++) {
                    again = loom.app(again, x < 10 ? names[x] : one);
                }
                int others = g == 0 && first == 0 ? one : g == 0 ? names[0] : loom.global(g - 1);
                for (int x = 1; x <= 10 && g > 0; x++) {
                    others = loom.app(others, x < 10 ? one : names[0]);
                }
                for (int x = 1; x < 10; x++) {
                    others = loom.seq(others, names[x]);
                }
                int node = loom.choose(one, loom.seq(names[0], again), others);
                for (int x = 9; x >= 0; x--) {
                    node = loom.lam(x, node);
                }
                Check.due("promise 17: ten LAMs", loom.define(g, node) > 0 ? 1 : 0, 1);
            }
            for (int g = 0; g < 4; g++) {
                for (int place = 0; place < 10; place++) {
                    Check.due("promise 25: " + g + ", " + place, loom.needed(g, place), first);
                }
            }
        }
    }

    /** "All of all globals are needed at first; then it is looked again and again, .., until nothing is otherwise." */
    private static void roundAndRound() {
        loom = new LazyLoom();
        for (int g = 0; g < 8; g++) {
            Words.define(loom, g, "(lam x0 (app g" + (g + 1) % 8 + " x0))");
        }
        for (int g = 0; g < 8; g++) {
            Check.due("promise 25: a round without an end", loom.needed(g, 0), 1);
        }
        Words.define(loom, 7, "(lam x0 (if 1 2 (app g0 x0)))");
        for (int g = 0; g < 8; g++) {
            Check.due("promise 25: one that has an end", loom.needed(g, 0), 0);
        }
        Words.define(loom, 7, "(lam x0 (if x0 2 (app g0 x0)))");
        for (int g = 0; g < 8; g++) {
            Check.due("promise 25: one whose end needs it", loom.needed(g, 0), 1);
        }
        // a name that goes away with each round
        Words.define(loom, 0, "(lam x0 (lam x1 (lam x2 (lam x3 (if 1 x3 (app (app (app (app g0 1) x0) x1) x2))))))");
        int[] due = {0, 0, 0, 1};
        for (int place = 0; place < 4; place++) {
            Check.due("promise 25: none is left", loom.needed(0, place), 0);
        }
        Words.define(loom, 0, "(lam x0 (lam x1 (lam x2 (lam x3 (if 1 x3 (app (app (app (app g0 x0) x1) x2) x3))))))");
        for (int place = 0; place < 4; place++) {
            Check.due("promise 25: x3 stays", loom.needed(0, place), due[place]);
        }
    }

    /** "Demands, and the expressions of GLOBALs, are those ahead of the pass." */
    private static void aheadOfThePass() {
        loom = new LazyLoom();
        Words.define(loom, 0, "(lam x0 (let x1 x0 (if x1 (let x2 1 (app g0 x2)) 3)))");
        Check.due("promise 20: of itself", loom.pass(LazyLoom.STRICTLY, 0), 2);
        Words.due("promise 20: of itself", loom, 0, "(lam x0 (strict x1 x0 (if x1 (strict x2 1 (app g0 x2)) 3)))");
        loom = new LazyLoom();
        Words.define(loom, 0, "(lam x0 (app g1 x0))");
        Words.define(loom, 1, "(lam x0 (+ x0 1))");
        Check.due("promise 20: g1 is put", loom.pass(LazyLoom.INLINE, 0), 1);
        Words.define(loom, 1, "(lam x0 (+ x0 2))");
        Words.due("promise 20: it stays as it was put", loom, 0, "(lam x0 (app (lam x0 (+ x0 1)) x0))");
    }

    /** "places are those of the node itself, then of its first part with all in it, and so on". */
    private static void places() {
        loom = new LazyLoom();
        Words.define(loom, 3, "(match (con 1 5 6) 1 x2 x3 (let x4 7 8) (app g5 9))");
        int[] kinds = {8, 7, 0, 0, 5, 0, 0, 4, 2, 0};
        int[] numbers = {1, 1, 5, 6, 0, 7, 8, 0, 5, 9};
        int[] names = {2, 0, 0, 0, 4, 0, 0, 0, 0, 0};
        for (int place = 0; place < 10; place++) {
            Check.due("promise 27: kind at " + place, loom.node(3, place, 0), kinds[place]);
            Check.due("promise 27: number at " + place, loom.node(3, place, 1), numbers[place]);
            Check.due("promise 27: name at " + place, loom.node(3, place, 2), names[place]);
            Check.due("promise 27: y at " + place, loom.node(3, place, 3), place == 0 ? 3 : 0);
        }
        for (int place : new int[] {10, 79, 80, 240, Integer.MAX_VALUE, -1, Integer.MIN_VALUE}) {
            Check.thrown("promise 27: no such place", Check.INDEX, () -> loom.node(3, place, 0));
            Check.thrown("promise 27: place ahead of what", Check.INDEX, () -> loom.node(3, place, 4));
            Check.thrown("promise 27: global ahead of place", Check.ARGUMENT, () -> loom.node(8, place, 0));
        }
        Check.thrown("promise 27: what", Check.ARGUMENT, () -> loom.node(3, 9, 4));
        Check.thrown("promise 27: of nothing", Check.INDEX, () -> loom.node(2, 0, 0));
        Words.define(loom, 7, raises(79, "-2147483648"));
        Check.due("promise 27: the 80th place", loom.node(7, 79, 1), Integer.MIN_VALUE);
        Check.thrown("promise 27: the 81st place", Check.INDEX, () -> loom.node(7, 80, 0));
    }
}
