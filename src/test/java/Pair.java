import java.util.ArrayList;
import java.util.List;

/** A LazyLoom and a Naive beside it, which get the same calls and must answer alike. */
final class Pair implements Nodes {
    static final int THROWN_INDEX = -1000000001, THROWN_ARGUMENT = -1000000002, THROWN_STATE = -1000000003,
        THROWN_OTHER = -1000000004;

    private final LazyLoom loom = new LazyLoom();
    private final Naive naive = new Naive();
    private final String title;
    private final List<String> log = new ArrayList<>();
    private boolean isApart = false;
    int calls = 0;
    int told = 0;

    Pair(String title) {
        this.title = title;
    }

    boolean isApart() {
        return isApart;
    }

    private static long answer(Check.Call call) {
        try {
            return call.answer();
        } catch (IndexOutOfBoundsException e) {
            return e.getClass() == IndexOutOfBoundsException.class ? THROWN_INDEX : THROWN_OTHER;
        } catch (IllegalArgumentException e) {
            return e.getClass() == IllegalArgumentException.class ? THROWN_ARGUMENT : THROWN_OTHER;
        } catch (IllegalStateException e) {
            return e.getClass() == IllegalStateException.class ? THROWN_STATE : THROWN_OTHER;
        } catch (RuntimeException e) {
            return THROWN_OTHER;
        }
    }

    private int both(String call, Check.Call one, Check.Call other) {
        calls++;
        long got = answer(one);
        long want = answer(other);
        log.add(call + " = " + got);
        if (got != want && !isApart) {
            isApart = true;
            Check.fail(title + ": the last call is due " + want + ": " + String.join("; ", log));
        }
        return (int) got;
    }

    private int node(String call, Check.Call one, Check.Call other) {
        int node = both(call, one, other);
        if (node >= 0) {
            told = node + 1;
        }
        return node;
    }

    @Override
    public int num(int n) {
        return node("num(" + n + ")", () -> loom.num(n), () -> naive.num(n));
    }

    @Override
    public int var(int x) {
        return node("var(" + x + ")", () -> loom.var(x), () -> naive.var(x));
    }

    @Override
    public int global(int g) {
        return node("global(" + g + ")", () -> loom.global(g), () -> naive.global(g));
    }

    @Override
    public int lam(int x, int b) {
        return node("lam(" + x + ", " + b + ")", () -> loom.lam(x, b), () -> naive.lam(x, b));
    }

    @Override
    public int app(int f, int a) {
        return node("app(" + f + ", " + a + ")", () -> loom.app(f, a), () -> naive.app(f, a));
    }

    @Override
    public int let(int x, int e, int b) {
        return node("let(" + x + ", " + e + ", " + b + ")", () -> loom.let(x, e, b), () -> naive.let(x, e, b));
    }

    @Override
    public int con(int t, int a, int b) {
        return node("con(" + t + ", " + a + ", " + b + ")", () -> loom.con(t, a, b), () -> naive.con(t, a, b));
    }

    @Override
    public int match(int e, int t, int x, int y, int b, int c) {
        return node("match(" + e + ", " + t + ", " + x + ", " + y + ", " + b + ", " + c + ")",
            () -> loom.match(e, t, x, y, b, c), () -> naive.match(e, t, x, y, b, c));
    }

    @Override
    public int choose(int e, int b, int c) {
        return node("choose(" + e + ", " + b + ", " + c + ")", () -> loom.choose(e, b, c), () -> naive.choose(e, b, c));
    }

    @Override
    public int prim(int o, int a, int b) {
        return node("prim(" + o + ", " + a + ", " + b + ")", () -> loom.prim(o, a, b), () -> naive.prim(o, a, b));
    }

    @Override
    public int seq(int a, int b) {
        return node("seq(" + a + ", " + b + ")", () -> loom.seq(a, b), () -> naive.seq(a, b));
    }

    @Override
    public int raise(int a) {
        return node("raise(" + a + ")", () -> loom.raise(a), () -> naive.raise(a));
    }

    @Override
    public int hold(int a, int x, int b) {
        return node("hold(" + a + ", " + x + ", " + b + ")", () -> loom.hold(a, x, b), () -> naive.hold(a, x, b));
    }

    @Override
    public int par(int x, int b) {
        return node("par(" + x + ", " + b + ")", () -> loom.par(x, b), () -> naive.par(x, b));
    }

    @Override
    public int centre(int c, int b) {
        return node("centre(" + c + ", " + b + ")", () -> loom.centre(c, b), () -> naive.centre(c, b));
    }

    int define(int g, int n) {
        return both("define(" + g + ", " + n + ")", () -> loom.define(g, n), () -> naive.define(g, n));
    }

    int rule(int f, int g, int h) {
        return both("rule(" + f + ", " + g + ", " + h + ")", () -> loom.rule(f, g, h), () -> naive.rule(f, g, h));
    }

    int begin() {
        return both("begin()", loom::begin, naive::begin);
    }

    int pass(int p, int g) {
        return both("pass(" + p + ", " + g + ")", () -> loom.pass(p, g), () -> naive.pass(p, g));
    }

    int run(int g, int many, int a, int b, int interrupt, boolean isBegun) {
        return both("run(" + g + ", " + many + ", " + a + ", " + b + ", " + interrupt + ", " + isBegun + ")",
            () -> loom.run(g, many, a, b, interrupt, isBegun), () -> naive.run(g, many, a, b, interrupt, isBegun));
    }

    int plainly(int g, int many, int a, int b, boolean isBegun) {
        return both("plainly(" + g + ", " + many + ", " + a + ", " + b + ", " + isBegun + ")",
            () -> loom.plainly(g, many, a, b, isBegun), () -> naive.plainly(g, many, a, b, isBegun));
    }

    int value() {
        return both("value()", loom::value, naive::value);
    }

    int count(int what) {
        return both("count(" + what + ")", () -> loom.count(what), () -> naive.count(what));
    }

    int needed(int g, int place) {
        return both("needed(" + g + ", " + place + ")", () -> loom.needed(g, place), () -> naive.needed(g, place));
    }

    int size(int g, boolean isBegun) {
        return both("size(" + g + ", " + isBegun + ")", () -> loom.size(g, isBegun), () -> naive.size(g, isBegun));
    }

    int node(int g, int place, int what) {
        return both("node(" + g + ", " + place + ", " + what + ")", () -> loom.node(g, place, what),
            () -> naive.node(g, place, what));
    }

    /** Every answer about the last run. */
    void lookAtRun() {
        value();
        for (int what = 0; what < 10; what++) {
            count(what);
        }
    }

    /** Every answer about a global of now. */
    void lookAtGlobal(int g) {
        int size = size(g, false);
        for (int place = 0; place < size; place++) {
            for (int what = 0; what < 4; what++) {
                node(g, place, what);
            }
        }
        for (int place = 0; place < 5; place++) {
            needed(g, place);
        }
    }
}
