import java.util.Arrays;

/**
 * "If several exceptions apply to a call, the one that its comment lists first is thrown. A call that throws an
 * exception changes nothing." Each call of the face gets all arguments about the ends of their ranges, in an empty
 * object, in one with much in it, and in one that is full; those that are refused must throw what is due, and leave
 * the object as one that was made likewise and got none of them. Those that are allowed must not throw.
 */
public final class RefusedTest {
    private static final Class<?> INDEX = Check.INDEX, ARGUMENT = Check.ARGUMENT, STATE = Check.STATE;
    private static final int LEAST = Integer.MIN_VALUE, MOST = Integer.MAX_VALUE, NONE = LazyLoom.NONE;

    private static final int EMPTY = 0, SOME = 1, FULL = 2;

    /** In an object that is not empty: a NUM, a VAR, a GLOBAL, and a LAM; all others are no atoms. */
    private static final int NUM = 0, VAR = 1, GLOBAL = 2, LAM = 3;

    private interface Act {
        long on(LazyLoom loom, int[] a);
    }

    /** What is due for a call: an exception, or null. */
    private interface Due {
        Class<?> of(int[] a);
    }

    private static int state;
    private static int nodes;
    private static int refused = 0;

    public static void main(String[] args) {
        for (state = EMPTY; state <= FULL; state++) {
            nodes = state == FULL ? 200 : state == SOME ? nodesOf(made()) : 0;
            leaves();
            nodesWithParts();
            nodesWithNames();
            programs();
            runs();
            questions();
        }
        System.out.println("  refused: " + refused);
        Check.end("RefusedTest");
    }

    // ---- objects

    private static LazyLoom made() {
        LazyLoom loom = new LazyLoom();
        if (state == EMPTY) {
            return loom;
        }
        loom.num(5);
        loom.var(3);
        loom.global(1);
        loom.lam(3, VAR);
        Words.define(loom, 0, "(let x0 (+ 1 2) (let x1 (con 1 x0 g1) (match x1 1 x2 x3 (+ x2 x3) 4)))");
        Words.define(loom, 1, "(+ 3 (+ 4 5))");
        Words.define(loom, 2, "(lam x0 (lam x1 (if x0 x1 (app (app g2 x1) x1))))");
        Words.define(loom, 3, "(lam x4 (par x4 (catch (raise x4) x5 (- x5 1))))");
        loom.rule(1, 2, 3);
        if (state == FULL) {
            loom.begin();
        }
        loom.pass(LazyLoom.FOLD, 1);
        loom.run(0, 0, 0, 0, 0, false);
        if (state == FULL) {
            for (int i = 1; i < 8; i++) {
                loom.rule(i, i, i);
            }
            loom.run(1, 0, 0, 0, 0, true);
            loom.run(3, 1, 77, 0, 0, false);
            int left = 200 - nodesOf(loom);
            for (int i = 0; i < left; i++) {
                loom.raise(LAM);
            }
        }
        return loom;
    }

    /** The nodes that are told: those that can be parts. */
    private static int nodesOf(LazyLoom loom) {
        int there = 0;
        for (int node = 0; node < 200; node++) {
            int asked = node;
            // A GLOBAL out of its range shows whether the node is there, and changes nothing.
            there += thrown(() -> loom.define(8, asked)) == ARGUMENT ? 1 : 0;
        }
        return there;
    }

    private static Class<?> thrown(Check.Call call) {
        try {
            call.answer();
            return null;
        } catch (RuntimeException e) {
            return e.getClass();
        }
    }

    /** All that an object answers; what it answers behind calls that change it, too, so that it can't be used then. */
    private static String answers(LazyLoom loom) {
        StringBuilder told = new StringBuilder();
        told.append(loom.value());
        for (int what = 0; what < 10; what++) {
            told.append(' ').append(loom.count(what));
        }
        for (int g = 0; g < 8; g++) {
            told.append(" g").append(g).append(' ').append(Words.told(loom, g)).append(loom.needed(g, 0))
                .append(loom.needed(g, 1));
        }
        told.append(" nodes ").append(nodesOf(loom));
        for (int begun = 0; begun < 2; begun++) {
            for (int g = 0; g < 8; g++) {
                tellRun(told, loom, g, begun == 1);
            }
        }
        int before = told.length();
        for (int i = 0; i < 9; i++) {
            int own = i;
            told.append(thrown(() -> loom.rule(own, 2, 4)) == null ? " rule" : " no rule");
        }
        if (told.indexOf(" rule", before) >= 0 && loom.size(1, false) > 0) {
            loom.define(5, GLOBAL);
            told.append(' ').append(loom.pass(LazyLoom.FUSE, 0));
        }
        told.append(' ').append(thrown(() -> loom.num(1)) == null ? "" : "full").append(loom.begin());
        return told.toString();
    }

    private static void tellRun(StringBuilder told, LazyLoom loom, int g, boolean isBegun) {
        Class<?> how = thrown(() -> loom.size(g, isBegun));
        if (how != null) {
            told.append(" none");
            return;
        }
        told.append(" size ").append(loom.size(g, isBegun)).append(" run ").append(loom.run(g, 1, 2, 0, 0, isBegun))
            .append(loom.run(g, 0, 0, 0, 0, isBegun)).append(' ').append(loom.value()).append(" steps ")
            .append(loom.count(0));
    }

    // ---- all arguments

    /** Tries all rows of arguments, each of which has the given choices. */
    private static void all(String call, Due due, Act act, int[]... choices) {
        LazyLoom loom = made();
        int rows = 1;
        for (int[] row : choices) {
            rows *= row.length;
        }
        int[] a = new int[choices.length];
        for (int i = 0; i < rows; i++) {
            int left = i;
            for (int j = 0; j < choices.length; j++) {
                a[j] = choices[j][left % choices[j].length];
                left /= choices[j].length;
            }
            Class<?> want = due.of(a);
            int[] own = a.clone();
            String what = call + Arrays.toString(own) + " in " + new String[] {"an empty", "a", "a full"}[state] + " one";
            if (want != null) {
                refused++;
                Check.thrown(what, want, () -> act.on(loom, own));
            } else {
                LazyLoom other = made();
                Class<?> got = thrown(() -> act.on(other, own));
                Check.due(what + (got == null ? "" : " threw " + got), got == null ? 0 : 1, 0);
            }
        }
        Check.due(call + " changes nothing where it is refused", answers(loom).equals(answers(made())) ? 0 : 1, 0);
    }

    private static int[] ends(int end) {
        return new int[] {LEAST, -1, 0, end - 1, end, MOST};
    }

    private static int[] fewEnds(int end) {
        return new int[] {-1, 0, end - 1, end};
    }

    private static int[] parts() {
        return nodes == 0 ? new int[] {LEAST, -2, -1, 0, 1, 199, MOST}
            : new int[] {LEAST, -2, -1, NUM, VAR, GLOBAL, LAM, nodes - 1, nodes, 200, MOST};
    }

    private static int[] fewParts() {
        return new int[] {-1, 0, Math.max(0, nodes - 1), nodes};
    }

    private static boolean isIn(int asked, int end) {
        return asked >= 0 && asked < end;
    }

    private static boolean isThere(int node) {
        return isIn(node, nodes);
    }

    private static boolean isAtom(int node) {
        return node == NUM || node == VAR || node == GLOBAL;
    }

    /** The exception of the first thing that is wrong: no such node, an argument, no place. */
    private static Class<?> first(boolean isThere, boolean isRight) {
        return !isThere ? INDEX : !isRight ? ARGUMENT : nodes == 200 ? STATE : null;
    }

    private static void leaves() {
        all("num", a -> first(true, true), (x, a) -> x.num(a[0]), ends(0));
        all("var", a -> first(true, isIn(a[0], 16)), (x, a) -> x.var(a[0]), ends(16));
        all("global", a -> first(true, isIn(a[0], 8)), (x, a) -> x.global(a[0]), ends(8));
    }

    private static void nodesWithParts() {
        all("app", a -> first(isThere(a[0]) && isThere(a[1]), isAtom(a[1])), (x, a) -> x.app(a[0], a[1]), parts(),
            parts());
        all("con", a -> first((a[1] == NONE || isThere(a[1])) && (a[2] == NONE || isThere(a[2])),
            isIn(a[0], 4) && (a[1] == NONE || isAtom(a[1])) && (a[2] == NONE || isAtom(a[2]))
                && (a[1] != NONE || a[2] == NONE)), (x, a) -> x.con(a[0], a[1], a[2]), ends(4), parts(), parts());
        all("choose", a -> first(isThere(a[0]) && isThere(a[1]) && isThere(a[2]), true),
            (x, a) -> x.choose(a[0], a[1], a[2]), parts(), parts(), parts());
        all("prim", a -> first(isThere(a[1]) && isThere(a[2]), isIn(a[0], 5)), (x, a) -> x.prim(a[0], a[1], a[2]),
            ends(5), parts(), parts());
        all("seq", a -> first(isThere(a[0]) && isThere(a[1]), true), (x, a) -> x.seq(a[0], a[1]), parts(), parts());
        all("raise", a -> first(isThere(a[0]), true), (x, a) -> x.raise(a[0]), parts());
        all("centre", a -> first(isThere(a[1]), isIn(a[0], 4)), (x, a) -> x.centre(a[0], a[1]), ends(4), parts());
    }

    private static void nodesWithNames() {
        all("lam", a -> first(isThere(a[1]), isIn(a[0], 16)), (x, a) -> x.lam(a[0], a[1]), ends(16), parts());
        all("let", a -> first(isThere(a[1]) && isThere(a[2]), isIn(a[0], 16)), (x, a) -> x.let(a[0], a[1], a[2]),
            ends(16), parts(), parts());
        all("match", a -> first(isThere(a[0]) && isThere(a[4]) && isThere(a[5]),
            isIn(a[1], 4) && isIn(a[2], 16) && isIn(a[3], 16)), (x, a) -> x.match(a[0], a[1], a[2], a[3], a[4], a[5]),
            fewParts(), fewEnds(4), fewEnds(16), fewEnds(16), fewParts(), fewParts());
        all("hold", a -> first(isThere(a[0]) && isThere(a[2]), isIn(a[1], 16)), (x, a) -> x.hold(a[0], a[1], a[2]),
            parts(), ends(16), parts());
        all("par", a -> first(isThere(a[1]), isIn(a[0], 16)), (x, a) -> x.par(a[0], a[1]), ends(16), parts());
    }

    private static void programs() {
        all("define", a -> !isThere(a[1]) ? INDEX : !isIn(a[0], 8) ? ARGUMENT : a[1] == VAR ? STATE : null,
            (x, a) -> x.define(a[0], a[1]), ends(8), new int[] {LEAST, -1, NUM, VAR, GLOBAL, LAM, nodes, 200, MOST});
        all("rule", a -> !isIn(a[0], 8) || !isIn(a[1], 8) || !isIn(a[2], 8) ? ARGUMENT : state == FULL ? STATE : null,
            (x, a) -> x.rule(a[0], a[1], a[2]), ends(8), ends(8), ends(8));
        all("pass", a -> !isIn(a[0], 9) || !isIn(a[1], 8) ? ARGUMENT : state == EMPTY || a[1] > 3 ? STATE : null,
            (x, a) -> x.pass(a[0], a[1]), ends(9), ends(8));
    }

    private static void runs() {
        int[] numbers = {LEAST, 0, MOST};
        int[] flags = {0, 1};
        all("run", a -> !isIn(a[0], 8) || !isIn(a[1], 3) || !isIn(a[4], 601) ? ARGUMENT
            : a[5] == 1 && state != FULL ? STATE : null,
            (x, a) -> x.run(a[0], a[1], a[2], a[3], a[4], a[5] == 1), ends(8), ends(3), numbers, numbers,
            new int[] {LEAST, -1, 0, 1, 600, 601, MOST}, flags);
        all("plainly", a -> !isIn(a[0], 8) || !isIn(a[1], 3) ? ARGUMENT : a[4] == 1 && state != FULL ? STATE : null,
            (x, a) -> x.plainly(a[0], a[1], a[2], a[3], a[4] == 1), ends(8), ends(3), numbers, numbers, flags);
        all("count", a -> isIn(a[0], 10) ? null : ARGUMENT, (x, a) -> x.count(a[0]), ends(10));
    }

    private static void questions() {
        int[] flags = {0, 1};
        all("needed", a -> !isIn(a[0], 8) || a[1] < 0 ? ARGUMENT : null, (x, a) -> x.needed(a[0], a[1]), ends(8),
            new int[] {LEAST, -1, 0, 1, 80, MOST});
        all("size", a -> !isIn(a[0], 8) ? ARGUMENT : a[1] == 1 && state != FULL ? STATE : null,
            (x, a) -> x.size(a[0], a[1] == 1), ends(8), flags);
        int[] sizes = new int[8];
        LazyLoom loom = made();
        for (int g = 0; g < 8; g++) {
            sizes[g] = loom.size(g, false);
        }
        all("node", a -> !isIn(a[0], 8) ? ARGUMENT : !isIn(a[1], sizes[a[0]]) ? INDEX : !isIn(a[2], 4) ? ARGUMENT : null,
            (x, a) -> x.node(a[0], a[1], a[2]), new int[] {LEAST, -1, 0, 1, 2, 7, 8, MOST},
            new int[] {LEAST, -1, 0, sizes[0] - 1, sizes[0], sizes[1] - 1, sizes[1], sizes[2] - 1, sizes[2], 79, 80, MOST},
            ends(4));
    }
}
