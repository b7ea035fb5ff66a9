/** Promises 17 to 19, and what of promise 20 holds for every pass. */
public final class ProgramsTest {
    private static LazyLoom loom;

    public static void main(String[] args) {
        define();
        defineSizes();
        rule();
        begin();
        beginCopies();
        pass();
        passTooLarge();
        Check.end("ProgramsTest");
    }

    private static void define() {
        loom = new LazyLoom();
        int number = loom.num(3);
        int var = loom.var(0);
        Check.thrown("promise 17: no node", Check.INDEX, () -> loom.define(0, 2));
        Check.thrown("promise 17: -1", Check.INDEX, () -> loom.define(0, -1));
        Check.thrown("promise 17: index ahead of argument", Check.INDEX, () -> loom.define(8, 2));
        Check.thrown("promise 17: global 8", Check.ARGUMENT, () -> loom.define(8, number));
        Check.thrown("promise 17: global -1", Check.ARGUMENT, () -> loom.define(-1, var));
        Check.thrown("promise 17: free names", Check.STATE, () -> loom.define(0, var));
        Check.due("promise 17: nothing was written", loom.size(0, false), 0);
        Check.due("promise 17: a number", loom.define(0, number), 1);
        Check.due("promise 17: in place of one before", loom.define(0, loom.lam(0, var)), 2);
        Words.due("promise 17: it is that one", loom, 0, "(lam x0 x0)");
        Check.thrown("promise 17: free names again", Check.STATE, () -> loom.define(0, var));
        Words.due("promise 17: it stays as it was", loom, 0, "(lam x0 x0)");
        Check.due("promise 17: global 7", loom.define(7, number), 1);
        Check.due("promise 17: the others stay", loom.size(6, false), 0);
        int par = loom.par(0, number);
        Check.thrown("promise 17: PAR has a free name", Check.STATE, () -> loom.define(0, par));
        int other = loom.lam(1, var);
        Check.thrown("promise 17: another name is bound", Check.STATE, () -> loom.define(0, other));
    }

    private static void defineSizes() {
        loom = new LazyLoom();
        int node = loom.num(1);
        for (int nodes = 2; nodes <= 80; nodes++) {
            node = loom.raise(node);
        }
        int eighty = node;
        int more = loom.raise(eighty);
        Check.due("promise 17: 80 nodes", loom.define(0, eighty), 80);
        Check.thrown("promise 17: 81 nodes", Check.STATE, () -> loom.define(0, more));
        Check.due("promise 17: 80 nodes stay", loom.size(0, false), 80);
        int pair = loom.prim(0, 39, 39);
        Check.due("promise 17: nodes count as often as they stand in it", loom.size(0, false), 80);
        Check.thrown("promise 17: 40 nodes twice, and one", Check.STATE, () -> loom.define(0, pair));
        Check.due("promise 17: 39 nodes twice, and one", loom.define(0, loom.prim(0, 38, 38)), 79);
    }

    private static void rule() {
        loom = new LazyLoom();
        for (int[] wrong : new int[][] {{-1, 0, 0}, {0, -1, 0}, {0, 0, -1}, {8, 0, 0}, {0, 8, 0}, {0, 0, 8}}) {
            Check.thrown("promise 18: out of range", Check.ARGUMENT, () -> loom.rule(wrong[0], wrong[1], wrong[2]));
        }
        for (int i = 1; i <= 8; i++) {
            Check.due("promise 18: rules", loom.rule(7, 0, i - 1), i);
        }
        Check.thrown("promise 18: full", Check.STATE, () -> loom.rule(0, 0, 0));
        Check.thrown("promise 18: full, argument first", Check.ARGUMENT, () -> loom.rule(0, 8, 0));
        Words.define(loom, 1, "(let x0 (app g0 5) (app g7 x0))");
        Check.due("promise 18: it fits", loom.pass(LazyLoom.FUSE, 1), 1);
        Words.due("promise 18: the first one counts", loom, 1, "(app g0 5)");
    }

    private static void begin() {
        loom = new LazyLoom();
        Check.thrown("promise 19: none yet", Check.STATE, () -> loom.size(0, true));
        Check.due("promise 19: of nothing", loom.begin(), 0);
        Check.due("promise 19: there is one then", loom.size(0, true), 0);
        Check.due("promise 19: it can be run", loom.run(0, 0, 0, 0, 0, true), LazyLoom.WRONG);
        Words.define(loom, 2, "(+ 1 2)");
        Words.define(loom, 5, "7");
        Check.due("promise 19: now goes on by itself", loom.size(2, true), 0);
        Check.due("promise 19: two globals", loom.begin(), 2);
        Check.due("promise 19: in place of the one before", loom.size(2, true), 3);
        loom.pass(LazyLoom.FOLD, 2);
        Words.define(loom, 5, "(lam x0 x0)");
        Check.due("promise 19: passes go over now alone", loom.size(2, true), 3);
        Check.due("promise 19: define() is of now alone", loom.size(5, true), 1);
        Check.due("promise 19: now is another", loom.size(2, false), 1);
        loom.run(2, 0, 0, 0, 0, true);
        Check.due("promise 19: the beginning is found as it was", loom.count(0), 4);
        loom.run(2, 0, 0, 0, 0, false);
        Check.due("promise 19: now as it is", loom.count(0), 1);
        for (int g = 0; g < 8; g++) {
            Words.define(loom, g, "0");
        }
        Check.due("promise 19: all globals", loom.begin(), 8);
        Check.due("promise 19: anew", loom.size(2, true), 1);
    }

    private static void beginCopies() {
        loom = new LazyLoom();
        String all = "(lam x1 (let x2 (if x1 (con 1 x1 g3) (con 0)) (match (seq x2 x2) 1 x3 x4 (catch (raise x3) x5 "
            + "(par x2 (centre 2 (app x4 x5)))) (lam x6 x6))))";
        Words.define(loom, 0, all);
        Words.define(loom, 3, "(lam x0 (+ x0 1))");
        loom.begin();
        loom.define(0, loom.num(1));
        loom.define(3, loom.num(1));
        Check.due("promise 19: size of the whole", loom.size(0, true), Words.of(all).told().split(";").length - 1);
        Check.due("promise 19: its run", loom.run(0, 1, 5, 0, 0, true), LazyLoom.NUMBER);
        Check.due("promise 19: its value", loom.value(), 6);
    }

    private static void pass() {
        loom = new LazyLoom();
        Words.define(loom, 0, "(+ 1 (+ 2 3))");
        Check.thrown("promise 20: pass -1", Check.ARGUMENT, () -> loom.pass(-1, 0));
        Check.thrown("promise 20: pass 9", Check.ARGUMENT, () -> loom.pass(9, 0));
        Check.thrown("promise 20: global -1", Check.ARGUMENT, () -> loom.pass(0, -1));
        Check.thrown("promise 20: global 8", Check.ARGUMENT, () -> loom.pass(8, 8));
        Check.thrown("promise 20: argument ahead of state", Check.ARGUMENT, () -> loom.pass(9, 1));
        Check.thrown("promise 20: nothing", Check.STATE, () -> loom.pass(0, 1));
        for (int pass = LazyLoom.DEAD; pass <= LazyLoom.FUSE; pass++) {
            Check.due("promise 20: pass " + pass + " fits nothing", loom.pass(pass, 0), 0);
        }
        Words.due("promise 20: it is as it was", loom, 0, "(+ 1 (+ 2 3))");
        Check.due("promise 20: parts first, then the node itself", loom.pass(LazyLoom.FOLD, 0), 2);
        Words.due("promise 20: once", loom, 0, "6");
        Check.due("promise 20: nothing is left", loom.pass(LazyLoom.FOLD, 0), 0);
    }

    /** INLINE makes nodes more; 80 are written, 81 are not, and then all is as it was. */
    private static void passTooLarge() {
        String call = "(app g1 5)";
        StringBuilder seven = new StringBuilder(call);
        for (int i = 1; i < 7; i++) {
            seven = new StringBuilder("(+ ").append(seven).append(' ').append(call).append(')');
        }
        // 27 nodes; 7 times f brings n - 1 nodes more
        loom = new LazyLoom();
        Words.define(loom, 1, "(lam x0 (+ x0 (+ 1 (+ 2 3))))");
        Check.due("promise 20: g1", loom.size(1, false), 8);
        Words.define(loom, 0, "(raise (raise (raise (raise " + seven + "))))");
        Check.due("promise 20: ahead", loom.size(0, false), 31);
        Check.due("promise 20: 80 nodes behind", loom.pass(LazyLoom.INLINE, 0), 7);
        Check.due("promise 20: they are 80", loom.size(0, false), 80);
        Words.define(loom, 2, "(raise (raise (raise (raise (raise " + seven + ")))))");
        String ahead = Words.told(loom, 2);
        Check.due("promise 20: 81 nodes behind", loom.pass(LazyLoom.INLINE, 2), LazyLoom.NONE);
        Check.due("promise 20: nothing is written", Words.told(loom, 2).equals(ahead) ? 1 : 0, 1);
        // the most that INLINE can bring: 26 calls of 12 nodes
        loom = new LazyLoom();
        Words.define(loom, 1, "(lam x0 (+ x0 (+ 1 (+ 2 (+ 3 (+ 4 5))))))");
        Check.due("promise 20: g1 of 12 nodes", loom.size(1, false), 12);
        StringBuilder most = new StringBuilder(call);
        for (int i = 1; i < 20; i++) {
            most = new StringBuilder("(seq ").append(most).append(' ').append(call).append(')');
        }
        Words.define(loom, 0, most.toString());
        Check.due("promise 20: 20 calls", loom.size(0, false), 79);
        Check.due("promise 20: too many", loom.pass(LazyLoom.INLINE, 0), LazyLoom.NONE);
        StringBuilder matches = new StringBuilder(call);
        for (int i = 0; i < 11; i++) {
            matches = new StringBuilder("(if ").append(matches).append(' ').append(call).append(' ').append(call)
                .append(')');
        }
        Words.define(loom, 0, matches.toString());
        Check.due("promise 20: 23 calls", loom.size(0, false), 80);
        Check.due("promise 20: too many again", loom.pass(LazyLoom.INLINE, 0), LazyLoom.NONE);
        Check.due("promise 20: 80 stay", loom.size(0, false), 80);
    }
}
