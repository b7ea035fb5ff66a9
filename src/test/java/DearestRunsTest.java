/**
 * Runs that go to the ends of what may be: as many cells as 600 steps and four sparks can make, and as many nodes that
 * wait at once as a run can have. LazyLoom must answer as Naive does, in the first run of an object and in later ones.
 */
public final class DearestRunsTest {
    /** Far more than the steps of a run alone could make. */
    private static final int MANY_CELLS = 1150;

    public static void main(String[] args) {
        manyCells(false);
        manyCells(true);
        manyWait();
        Check.end("DearestRunsTest");
    }

    /** So many LETs, each of which makes a cell that nobody looks at, around an expression. */
    private static String lets(int many, String b) {
        StringBuilder lets = new StringBuilder(b);
        for (int i = 0; i < many; i++) {
            lets.insert(0, "(let x2 x0 ").append(')');
        }
        return lets.toString();
    }

    private static String raises(int many, String a) {
        StringBuilder raises = new StringBuilder(a);
        for (int i = 0; i < many; i++) {
            raises.insert(0, "(raise ").append(')');
        }
        return raises.toString();
    }

    /** "a 601st step is not begun", "with at most 200 steps each", "they make cells .. that count". */
    private static void manyCells(boolean hasKept) {
        Pair pair = new Pair("many cells");
        Words.define(pair, 0, "(lam x0 (let x1 (app g2 1) (let x2 (app g2 2) (let x3 (app g2 3) (let x4 (app g2 4) "
            + "(par x1 (par x2 (par x3 (par x4 (app g1 x0))))))))))");
        Words.define(pair, 1, "(lam x0 (if x0 (let x1 (- x0 1) " + lets(33, "(seq x1 (app g1 x1))") + ") 7))");
        Words.define(pair, 2, "(lam x0 " + lets(30, "(app g2 x0)") + ")");
        Words.define(pair, 3, "(app g4 1)");
        Words.define(pair, 4, "(lam x0 (let x1 (+ x0 1) (let x2 (app g4 x1) (con 1 x1 x2))))");
        Words.define(pair, 5, "(lam x0 (match g3 1 x1 x2 (match x2 1 x3 x4 (+ x1 x3) 0) 0))");
        if (hasKept) {
            Check.due("what is kept", pair.run(3, 0, 0, 0, 0, false), LazyLoom.DATA);
        }
        for (int turn = 0; turn < 4; turn++) {
            Check.due("a dear run", pair.run(0, 1, 13, 0, 0, false), LazyLoom.NUMBER);
            Check.due("its value", pair.value(), 7);
            Check.due("steps of its sparks", pair.count(3), 800);
            Check.due("it makes many cells", pair.count(1) > MANY_CELLS ? 1 : 0, 1);
            pair.lookAtRun();
            Check.due("one turn too many", pair.run(0, 1, 14, 0, 0, false), LazyLoom.ENDLESS);
            pair.lookAtRun();
            Check.due("what is kept is as it was", pair.run(5, 1, 1, 0, 0, false), LazyLoom.NUMBER);
            Check.due("its number", pair.value(), 5);
            pair.lookAtRun();
        }
        Check.alike(pair.calls);
    }

    /** "If .. the run ends, the cell is as it was ahead, not found yet", also behind some 560 nodes that wait. */
    private static void manyWait() {
        for (int raises = 62; raises <= 64; raises++) {
            Pair pair = new Pair("many wait: " + raises);
            // a row of data, at whose end stands a cell that is begun with one of the last steps
            Words.define(pair, 0, "(let x0 (seq 1 (+ 2 3)) (let x1 (con 1 x0 x0) (let x2 (con 0 x1) (let x3 (con 0 x2) "
                + "(let x4 (con 0 x3) (let x5 (con 0 x4) (let x6 (con 0 x5) (let x7 (con 0 x6) "
                + "(let x8 (con 0 x7) (con 0 x8))))))))))");
            Words.define(pair, 1, "(lam x0 " + raises(raises, "(match x0 0 x1 x2 (app g1 x1) (match x0 1 x1 x2 x1 0))")
                + ")");
            Words.define(pair, 2, "(lam x0 (match x0 0 x1 x2 (app g2 x1) (match x0 1 x1 x2 x1 0)))");
            Words.define(pair, 3, "(app g1 g0)");
            Words.define(pair, 4, "(app g2 g0)");
            Check.due("a row", pair.run(0, 0, 0, 0, 0, false), LazyLoom.DATA);
            for (int interrupt = 580; interrupt <= 600; interrupt++) {
                Check.due("it is left", pair.run(3, 0, 0, 0, interrupt, false), LazyLoom.INTERRUPTED);
                pair.lookAtRun();
            }
            Check.due("it is left at the end", pair.run(3, 0, 0, 0, 0, false), LazyLoom.ENDLESS);
            pair.lookAtRun();
            Check.due("it is not black", pair.run(4, 0, 0, 0, 0, false), LazyLoom.NUMBER);
            Check.due("its value", pair.value(), 5);
            pair.lookAtRun();
            Check.alike(pair.calls);
        }
    }
}
