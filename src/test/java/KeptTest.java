/**
 * What the cells of GLOBALs keep from run to run: data and functions without an end, of which each run finds some more,
 * as far as it comes. LazyLoom must answer as Naive does, in all 512 calls of an object.
 */
public final class KeptTest {
    private static final int OBJECTS = 60, CALLS = 512;

    private static final String[] PROGRAM = {
        // a tree of numbers, whose first field is data now and then
        "(app g1 1)",
        "(lam x0 (let x1 (* x0 2) (let x2 (+ x1 1) (let x5 (con 2 x1 x5) (let x3 (app g1 x1) (let x4 (app g1 x2) "
            + "(if (- x0 (* (/ x0 3) 3)) (con 1 x3 x4) (con 1 x5 x4))))))))",
        // the way through it that a number tells, and what stands there
        "(lam x0 (lam x1 (match x1 1 x2 x3 (if x0 (let x4 (/ x0 2) (if (- x0 (* x4 2)) (app (app g2 x4) x2) "
            + "(app (app g2 x4) x3))) x2) (match x1 2 x2 x1 (match x1 2 x3 x2 x3 8) 9))))",
        // a function with such a tree around it
        "(let x0 (app g1 3) (let x3 (par x0 (+ 1 2)) (lam x1 (let x2 (+ x1 x3) (app (app g2 x2) x0)))))",
        // a row of functions
        "(app g5 0)",
        "(lam x0 (let x1 (+ x0 1) (let x2 (app g5 x1) (let x3 (lam x6 (if x6 (let x7 (- x6 1) (match x2 1 x3 x4 "
            + "(app x3 x7) 5)) x1)) (con 1 x3 x2)))))",
        // some sparks, also of cells that stay
        "(lam x0 (let x1 (app (app g2 x0) g0) (let x2 (app g3 x0) (match g4 1 x3 x4 (let x5 (app x3 x0) (par x1 (par x2 "
            + "(par x5 (par x4 (par x1 x0)))))) 3))))",
        "(lam x0 (match g4 1 x1 x2 (+ (catch (app x1 x0) x3 x3) 1) 4))"};

    private static long seed;

    public static void main(String[] args) {
        for (int i = 0; i < OBJECTS && Check.wrongs() <= 3; i++) {
            seed = 90001L * i + 3;
            Pair pair = new Pair("kept " + i);
            goThrough(pair);
            Check.alike(pair.calls);
        }
        Check.end("KeptTest");
    }

    /** A fixed row of numbers that look like dice. */
    private static int random(int end) {
        seed = seed * 6364136223846793005L + 1442695040888963407L;
        return (int) ((seed >>> 33) % end);
    }

    private static void goThrough(Pair pair) {
        for (int g = 0; g < PROGRAM.length; g++) {
            Words.define(pair, g, PROGRAM[g]);
        }
        boolean hasBegun = random(3) == 0;
        if (hasBegun) {
            pair.begin();
        }
        // Some are never made to forget, so that they keep more and more.
        boolean isForgetful = random(2) == 0;
        while (pair.calls < CALLS - 13 && !pair.isApart()) {
            if (isForgetful && random(20) == 0) {
                forget(pair);
            } else {
                runOnce(pair, hasBegun && random(2) == 0);
            }
        }
    }

    private static void forget(Pair pair) {
        int dice = random(4);
        if (dice == 0) {
            pair.define(4, pair.told - 1);
        } else if (dice == 1) {
            pair.begin();
        } else {
            pair.pass(random(LazyLoom.INLINE), random(8));
        }
    }

    private static void runOnce(Pair pair, boolean isBegun) {
        int[] ways = {0, 3, 4, 6, 6, 6, 7, 7};
        int g = ways[random(ways.length)];
        int number = random(3) == 0 ? random(40) : random(1 << 20) * 1021;
        int many = g == 0 || g == 4 ? 0 : 1;
        int interrupt = random(4) == 0 ? 1 + random(600) : 0;
        if (random(9) == 0) {
            pair.plainly(g, many, number, 0, isBegun);
        } else {
            pair.run(g, many, number, 0, interrupt, isBegun);
        }
        if (random(3) == 0) {
            pair.lookAtRun();
        } else {
            pair.value();
            pair.count(random(10));
        }
    }
}
