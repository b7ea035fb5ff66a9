import com.sun.management.ThreadMXBean;
import java.lang.management.ManagementFactory;

/**
 * How much an object and its 512 calls make: rows are made by the constructor and used again, but for what the cells
 * of GLOBALs keep, for which a run makes at most one row more.
 */
public final class RoomTest {
    private static final ThreadMXBean THREADS = (ThreadMXBean) ManagementFactory.getThreadMXBean();
    private static final long OBJECT_BYTES = 120000, CALL_BYTES = 100, ROW_BYTES = 3 * 8 * 1400 + 16,
        GROWN_BYTES = 80 * ROW_BYTES, KEPT_BYTES = 512 * ROW_BYTES, LONG_BYTES = 2 * ROW_BYTES, OTHER_BYTES = 300000;

    public static void main(String[] args) {
        // Twice, so that what Java itself makes at first is behind us.
        for (int turn = 0; turn < 2; turn++) {
            boolean isSecond = turn == 1;
            LazyLoom loom = loom(isSecond);
            runs(isSecond, loom);
            passes(isSecond, loom);
            growing(isSecond);
            keeping(isSecond);
            forgetting(isSecond);
            endless(isSecond);
        }
        Check.end("RoomTest");
    }

    private static long made() {
        return THREADS.getThreadAllocatedBytes(Thread.currentThread().getId());
    }

    private static void atMost(boolean isCounted, String what, long bytes, long most) {
        if (isCounted) {
            System.out.println("  " + what + ": " + bytes + " bytes");
            Check.due(what + " is at most " + most, bytes <= most ? 0 : bytes, 0);
        }
    }

    private static LazyLoom loom(boolean isCounted) {
        long ahead = made();
        LazyLoom loom = new LazyLoom();
        atMost(isCounted, "an object", made() - ahead, OBJECT_BYTES);
        Words.define(loom, 0, "(lam x0 (lam x1 (if x0 (let x2 (- x0 1) (let x3 (+ x0 x1) (par x3 "
            + "(app (app g0 x2) x3)))) x1)))");
        Words.define(loom, 1, "(app (lam x0 (+ x0 (+ 1 2))) 4)");
        loom.begin();
        return loom;
    }

    private static void runs(boolean isCounted, LazyLoom loom) {
        loom.run(0, 2, 60, 0, 0, true);
        long ahead = made();
        for (int i = 0; i < 450; i++) {
            loom.run(0, 2, 10 + i % 40, 0, 0, i % 2 == 0);
            loom.plainly(0, 2, 5, 0, true);
            loom.value();
        }
        atMost(isCounted, "900 runs", made() - ahead, CALL_BYTES * 900);
    }

    private static void passes(boolean isCounted, LazyLoom loom) {
        long ahead = made();
        for (int i = 0; i < 500; i++) {
            loom.pass(i % 9, i % 2);
            loom.needed(0, 1);
            loom.size(0, false);
        }
        atMost(isCounted, "500 passes", made() - ahead, CALL_BYTES * 500);
    }

    /** Data that stays from run to run, more with each: a tree whose branches are found as the numbers say. */
    private static void growing(boolean isCounted) {
        LazyLoom loom = new LazyLoom();
        Words.define(loom, 0, "(app g1 1)");
        Words.define(loom, 1, "(lam x0 (let x1 (* x0 2) (let x2 (+ x1 1) (let x3 (app g1 x1) (let x4 (app g1 x2) "
            + "(con 1 x3 x4))))))");
        Words.define(loom, 2, "(lam x0 (app (app g3 x0) g0))");
        Words.define(loom, 3, "(lam x0 (lam x1 (match x1 1 x2 x3 (if x0 (let x4 (/ x0 2) (if (- x0 (* x4 2)) "
            + "(app (app g3 x4) x2) (app (app g3 x4) x3))) 7) 8)))");
        long ahead = made();
        for (int i = 0; i < 500; i++) {
            loom.run(2, 1, 1000000 + i * 7919, 0, 0, false);
        }
        atMost(isCounted, "data that grows", made() - ahead, GROWN_BYTES);
        Check.due("it is found", loom.value(), 7);
    }

    /** A tree whose branches have many names around them, of which runs find as many as they can, with sparks, too. */
    private static void keeping(boolean isCounted) {
        StringBuilder branches = new StringBuilder("(let x0 (app g0 0) (let x1 (app g0 0) (con 0 x0 x1)))");
        for (int i = 0; i < 28; i++) {
            branches = new StringBuilder("(let x5 (con 0) ").append(branches).append(')');
        }
        LazyLoom loom = new LazyLoom();
        Words.define(loom, 0, "(lam x4 " + branches + ")");
        Words.define(loom, 1, "(app g0 0)");
        Words.define(loom, 2, "(lam x2 (lam x3 (match x2 0 x0 x1 (let x2 (+ x3 x3) (if (< x3 0) (app (app g2 x0) x2) "
            + "(app (app g2 x1) x2))) 0)))");
        Words.define(loom, 3, "(lam x0 (let x1 (* x0 7919) (let x2 (* x0 104729) (let x3 (* x0 1299709) (let x4 "
            + "(* x0 15485863) (let x5 (app (app g2 g1) x1) (let x6 (app (app g2 g1) x2) (let x7 (app (app g2 g1) x3) "
            + "(let x8 (app (app g2 g1) x4) (par x5 (par x6 (par x7 (par x8 0)))))))))))))");
        Words.define(loom, 4, "(lam x0 (app (app g2 g1) x0))");
        long ahead = made();
        int cells = 0;
        for (int i = 0; i < 511; i++) {
            loom.run(i % 3 == 0 ? 3 : 4, 1, i * -1640531535, 0, 0, false);
            cells += loom.count(1);
        }
        Check.due("there are many cells", cells > 140000 ? 1 : 0, 1);
        atMost(isCounted, "cells that are kept", made() - ahead, KEPT_BYTES);
        // What is answered then is free, but nothing more than a row for each of 512 calls is made.
        for (int i = 0; i < 4000; i++) {
            loom.run(i % 3 == 0 ? 3 : 4, 1, i * -1640531535 + 1, 0, 0, false);
        }
        atMost(isCounted, "all calls that may come", made() - ahead, KEPT_BYTES + OTHER_BYTES);
    }

    /** Where cells are forgotten again and again, what they had is written over. */
    private static void forgetting(boolean isCounted) {
        LazyLoom loom = new LazyLoom();
        Words.define(loom, 0, "(let x0 (+ 1 2) (seq x0 (con 1 x0 x0)))");
        int same = Words.of("(app (lam x1 (let x0 (+ 1 2) (seq x0 (con 1 x0 x0)))) 1)").tell(loom);
        long ahead = made();
        for (int i = 0; i < 250; i++) {
            loom.define(0, same);
            loom.run(0, 0, 0, 0, 0, false);
        }
        atMost(isCounted, "cells that are forgotten", made() - ahead, LONG_BYTES);
        Check.due("data", loom.value(), 12);
    }

    /** The dearest run: 600 steps, and four sparks with 200 each. */
    private static void endless(boolean isCounted) {
        LazyLoom loom = new LazyLoom();
        Words.define(loom, 0, "(lam x0 (let x1 (con 1 x0 x0) (let x2 (con 2 x1 x1) (app g0 x2))))");
        Words.define(loom, 1, "(let x0 (app g0 1) (let x1 (app g0 1) (let x2 (app g0 1) (let x3 (app g0 1) "
            + "(par x0 (par x1 (par x2 (par x3 5))))))))");
        long ahead = made();
        for (int i = 0; i < 250; i++) {
            Check.due("endless", loom.run(0, 1, 1, 0, 0, false), LazyLoom.ENDLESS);
            Check.due("sparks", loom.run(1, 0, 0, 0, 0, false), LazyLoom.NUMBER);
        }
        atMost(isCounted, "long runs", made() - ahead, LONG_BYTES);
    }
}
