/** Promises 1 to 16: a new object, and the telling of nodes. */
public final class NodesTest {
    private static final int NONE = LazyLoom.NONE;

    private static LazyLoom loom;
    private static int number;
    private static int lam;

    public static void main(String[] args) {
        newObject();
        num();
        var();
        global();
        lam();
        app();
        let();
        con();
        match();
        choose();
        prim();
        seq();
        raise();
        hold();
        par();
        centre();
        fullOfNodes();
        shared();
        Check.end("NodesTest");
    }

    /** A loom with the nodes 0 (NUM 7) and 1 (LAM 0 of it, no atom). */
    private static void fresh() {
        loom = new LazyLoom();
        number = loom.num(7);
        lam = loom.lam(0, number);
    }

    private static void kinds(String what, int told, int kind, int number, int name, int other) {
        Check.due(what + " is defined", loom.define(3, told) > 0 ? 1 : 0, 1);
        Check.due(what + ": kind", loom.node(3, 0, 0), kind);
        Check.due(what + ": number", loom.node(3, 0, 1), number);
        Check.due(what + ": name", loom.node(3, 0, 2), name);
        Check.due(what + ": y", loom.node(3, 0, 3), other);
    }

    private static void newObject() {
        loom = new LazyLoom();
        Check.thrown("promise 1: no nodes", Check.INDEX, () -> loom.seq(0, 0));
        for (int g = 0; g < 8; g++) {
            int own = g;
            Check.due("promise 1: no global " + g, loom.size(g, false), 0);
            Check.thrown("promise 1: no pass over " + g, Check.STATE, () -> loom.pass(LazyLoom.FOLD, own));
            Check.due("promise 1: run of nothing " + g, loom.run(g, 0, 0, 0, 0, false), LazyLoom.WRONG);
        }
        Check.thrown("promise 1: no beginning", Check.STATE, () -> loom.size(0, true));
        Check.due("promise 1: no rules", loom.rule(1, 2, 3), 1);
        loom = new LazyLoom();
        Check.due("promise 1: the first node", loom.num(4), 0);
        Check.due("promise 1: value without a run", loom.value(), 0);
        for (int what = 0; what < 10; what++) {
            Check.due("promise 1: count without a run", loom.count(what), 0);
        }
    }

    private static void num() {
        fresh();
        Check.due("promise 2: the next number", loom.num(-5), 2);
        Check.due("promise 2: and the next", loom.num(Integer.MIN_VALUE), 3);
        kinds("promise 2: -5", 2, 0, -5, 0, 0);
        kinds("promise 2: the least", 3, 0, Integer.MIN_VALUE, 0, 0);
        kinds("promise 2: the greatest", loom.num(Integer.MAX_VALUE), 0, Integer.MAX_VALUE, 0, 0);
    }

    private static void var() {
        fresh();
        Check.thrown("promise 3: -1", Check.ARGUMENT, () -> loom.var(-1));
        Check.thrown("promise 3: 16", Check.ARGUMENT, () -> loom.var(16));
        Check.due("promise 3: the next number", loom.var(0), 2);
        Check.due("promise 3: and the next", loom.var(15), 3);
        loom.define(0, loom.lam(15, 3));
        Check.due("promise 3: kind", loom.node(0, 1, 0), 1);
        Check.due("promise 3: name", loom.node(0, 1, 2), 15);
        Check.due("promise 3: number", loom.node(0, 1, 1), 0);
        Check.thrown("promise 3: it is free", Check.STATE, () -> loom.define(0, 2));
    }

    private static void global() {
        fresh();
        Check.thrown("promise 4: -1", Check.ARGUMENT, () -> loom.global(-1));
        Check.thrown("promise 4: 8", Check.ARGUMENT, () -> loom.global(8));
        Check.due("promise 4: the next number", loom.global(0), 2);
        kinds("promise 4: 7", loom.global(7), 2, 7, 0, 0);
        kinds("promise 4: 0", 2, 2, 0, 0, 0);
    }

    private static void lam() {
        fresh();
        Check.thrown("promise 5: no node", Check.INDEX, () -> loom.lam(0, 2));
        Check.thrown("promise 5: -1", Check.INDEX, () -> loom.lam(0, -1));
        Check.thrown("promise 5: index ahead of argument", Check.INDEX, () -> loom.lam(16, 2));
        Check.thrown("promise 5: name 16", Check.ARGUMENT, () -> loom.lam(16, 0));
        Check.thrown("promise 5: name -1", Check.ARGUMENT, () -> loom.lam(-1, 0));
        Check.due("promise 5: the next number", loom.lam(9, loom.var(9)), 3);
        kinds("promise 5", 3, 3, 0, 9, 0);
        Check.due("promise 5: its size", loom.size(3, false), 2);
    }

    private static void app() {
        fresh();
        Check.thrown("promise 6: no f", Check.INDEX, () -> loom.app(5, number));
        Check.thrown("promise 6: no a", Check.INDEX, () -> loom.app(lam, -1));
        Check.thrown("promise 6: index ahead of argument", Check.INDEX, () -> loom.app(9, lam));
        Check.thrown("promise 6: a is a LAM", Check.ARGUMENT, () -> loom.app(lam, lam));
        int call = loom.app(lam, number);
        Check.due("promise 6: the next number", call, 2);
        Check.thrown("promise 6: a is an APP", Check.ARGUMENT, () -> loom.app(lam, call));
        kinds("promise 6", call, 4, 0, 0, 0);
        Check.due("promise 6: f first", loom.node(3, 1, 0), 3);
        Check.due("promise 6: then a", loom.node(3, 3, 0), 0);
        kinds("promise 6: on a GLOBAL", loom.app(number, loom.global(1)), 4, 0, 0, 0);
        int var = loom.var(2);
        kinds("promise 6: on a VAR", loom.lam(2, loom.app(number, var)), 3, 0, 2, 0);
    }

    private static void let() {
        fresh();
        Check.thrown("promise 7: no e", Check.INDEX, () -> loom.let(0, 2, 0));
        Check.thrown("promise 7: no b", Check.INDEX, () -> loom.let(0, 0, 2));
        Check.thrown("promise 7: index ahead of argument", Check.INDEX, () -> loom.let(-1, 0, -1));
        Check.thrown("promise 7: name 16", Check.ARGUMENT, () -> loom.let(16, 0, 0));
        Check.thrown("promise 7: name -1", Check.ARGUMENT, () -> loom.let(-1, 0, 0));
        kinds("promise 7", loom.let(4, lam, number), 5, 0, 4, 0);
        Check.due("promise 7: e first", loom.node(3, 1, 0), 3);
        int x = loom.var(4);
        Check.due("promise 7: x is bound in e", loom.define(0, loom.let(4, x, number)), 3);
        Check.due("promise 7: and in b", loom.define(0, loom.let(4, number, x)), 3);
    }

    private static void con() {
        fresh();
        Check.thrown("promise 8: no first", Check.INDEX, () -> loom.con(0, 2, NONE));
        Check.thrown("promise 8: no second", Check.INDEX, () -> loom.con(0, 0, 2));
        Check.thrown("promise 8: -2", Check.INDEX, () -> loom.con(0, -2, NONE));
        Check.thrown("promise 8: second -2", Check.INDEX, () -> loom.con(0, 0, -2));
        Check.thrown("promise 8: index ahead of argument", Check.INDEX, () -> loom.con(4, NONE, 7));
        Check.thrown("promise 8: tag 4", Check.ARGUMENT, () -> loom.con(4, NONE, NONE));
        Check.thrown("promise 8: tag -1", Check.ARGUMENT, () -> loom.con(-1, NONE, NONE));
        Check.thrown("promise 8: first is no atom", Check.ARGUMENT, () -> loom.con(0, lam, NONE));
        Check.thrown("promise 8: second is no atom", Check.ARGUMENT, () -> loom.con(0, number, lam));
        Check.thrown("promise 8: second without first", Check.ARGUMENT, () -> loom.con(0, NONE, number));
        Check.due("promise 8: the next number", loom.con(0, NONE, NONE), 2);
        kinds("promise 8: no fields", 2, 7, 0, 0, 0);
        Check.due("promise 8: one node", loom.size(3, false), 1);
        kinds("promise 8: one field", loom.con(3, number, NONE), 7, 3, 0, 0);
        Check.due("promise 8: two nodes", loom.size(3, false), 2);
        kinds("promise 8: two fields", loom.con(2, number, loom.global(5)), 7, 2, 0, 0);
        Check.due("promise 8: three nodes", loom.size(3, false), 3);
        Check.due("promise 8: first", loom.node(3, 1, 0), 0);
        Check.due("promise 8: second", loom.node(3, 2, 0), 2);
    }

    private static void match() {
        fresh();
        Check.thrown("promise 9: no e", Check.INDEX, () -> loom.match(2, 0, 0, 0, 0, 0));
        Check.thrown("promise 9: no b", Check.INDEX, () -> loom.match(0, 0, 0, 0, 2, 0));
        Check.thrown("promise 9: no c", Check.INDEX, () -> loom.match(0, 0, 0, 0, 0, -1));
        Check.thrown("promise 9: index ahead of argument", Check.INDEX, () -> loom.match(0, 4, 16, 16, 0, 2));
        Check.thrown("promise 9: tag 4", Check.ARGUMENT, () -> loom.match(0, 4, 0, 0, 0, 0));
        Check.thrown("promise 9: tag -1", Check.ARGUMENT, () -> loom.match(0, -1, 0, 0, 0, 0));
        Check.thrown("promise 9: x 16", Check.ARGUMENT, () -> loom.match(0, 0, 16, 0, 0, 0));
        Check.thrown("promise 9: y -1", Check.ARGUMENT, () -> loom.match(0, 0, 0, -1, 0, 0));
        kinds("promise 9", loom.match(number, 3, 14, 15, lam, number), 8, 3, 14, 15);
        Check.due("promise 9: its size", loom.size(3, false), 5);
        Check.due("promise 9: b behind e", loom.node(3, 2, 0), 3);
        int x = loom.var(1);
        int y = loom.var(2);
        Check.due("promise 9: x is bound in b", loom.define(0, loom.match(0, 0, 1, 2, x, 0)), 4);
        Check.due("promise 9: y is bound in b", loom.define(0, loom.match(0, 0, 1, 2, y, 0)), 4);
        int inE = loom.match(x, 0, 1, 2, 0, 0);
        int inC = loom.match(0, 0, 1, 2, 0, y);
        Check.thrown("promise 9: x is free in e", Check.STATE, () -> loom.define(0, inE));
        Check.thrown("promise 9: y is free in c", Check.STATE, () -> loom.define(0, inC));
    }

    private static void choose() {
        fresh();
        Check.thrown("promise 10: no e", Check.INDEX, () -> loom.choose(2, 0, 0));
        Check.thrown("promise 10: no b", Check.INDEX, () -> loom.choose(0, -1, 0));
        Check.thrown("promise 10: no c", Check.INDEX, () -> loom.choose(0, 0, 2));
        kinds("promise 10", loom.choose(number, lam, number), 9, 0, 0, 0);
        Check.due("promise 10: its size", loom.size(3, false), 5);
        Check.due("promise 10: b behind e", loom.node(3, 2, 0), 3);
    }

    private static void prim() {
        fresh();
        Check.thrown("promise 11: no a", Check.INDEX, () -> loom.prim(0, 2, 0));
        Check.thrown("promise 11: no b", Check.INDEX, () -> loom.prim(0, 0, -1));
        Check.thrown("promise 11: index ahead of argument", Check.INDEX, () -> loom.prim(5, 0, 2));
        Check.thrown("promise 11: operation 5", Check.ARGUMENT, () -> loom.prim(5, 0, 0));
        Check.thrown("promise 11: operation -1", Check.ARGUMENT, () -> loom.prim(-1, 0, 0));
        kinds("promise 11: 4", loom.prim(4, number, lam), 10, 4, 0, 0);
        Check.due("promise 11: b behind a", loom.node(3, 2, 0), 3);
        kinds("promise 11: 0", loom.prim(0, number, number), 10, 0, 0, 0);
    }

    private static void seq() {
        fresh();
        Check.thrown("promise 12: no a", Check.INDEX, () -> loom.seq(2, 0));
        Check.thrown("promise 12: no b", Check.INDEX, () -> loom.seq(0, -1));
        kinds("promise 12", loom.seq(number, lam), 11, 0, 0, 0);
        Check.due("promise 12: b behind a", loom.node(3, 2, 0), 3);
    }

    private static void raise() {
        fresh();
        Check.thrown("promise 13: no a", Check.INDEX, () -> loom.raise(2));
        Check.thrown("promise 13: -1", Check.INDEX, () -> loom.raise(-1));
        kinds("promise 13", loom.raise(lam), 12, 0, 0, 0);
        Check.due("promise 13: a", loom.node(3, 1, 0), 3);
    }

    private static void hold() {
        fresh();
        Check.thrown("promise 14: no a", Check.INDEX, () -> loom.hold(2, 0, 0));
        Check.thrown("promise 14: no b", Check.INDEX, () -> loom.hold(0, 0, 2));
        Check.thrown("promise 14: index ahead of argument", Check.INDEX, () -> loom.hold(0, 16, 2));
        Check.thrown("promise 14: x 16", Check.ARGUMENT, () -> loom.hold(0, 16, 0));
        Check.thrown("promise 14: x -1", Check.ARGUMENT, () -> loom.hold(0, -1, 0));
        kinds("promise 14", loom.hold(number, 6, lam), 13, 0, 6, 0);
        Check.due("promise 14: b behind a", loom.node(3, 2, 0), 3);
        int x = loom.var(6);
        Check.due("promise 14: x is bound in b", loom.define(0, loom.hold(number, 6, x)), 3);
        int inA = loom.hold(x, 6, number);
        Check.thrown("promise 14: x is free in a", Check.STATE, () -> loom.define(0, inA));
    }

    private static void par() {
        fresh();
        Check.thrown("promise 15: no b", Check.INDEX, () -> loom.par(0, 2));
        Check.thrown("promise 15: index ahead of argument", Check.INDEX, () -> loom.par(16, -1));
        Check.thrown("promise 15: x 16", Check.ARGUMENT, () -> loom.par(16, 0));
        Check.thrown("promise 15: x -1", Check.ARGUMENT, () -> loom.par(-1, 0));
        int par = loom.par(8, number);
        Check.due("promise 15: the next number", par, 2);
        Check.thrown("promise 15: x is free in it", Check.STATE, () -> loom.define(0, par));
        loom.define(0, loom.lam(8, par));
        Check.due("promise 15: kind", loom.node(0, 1, 0), 14);
        Check.due("promise 15: name", loom.node(0, 1, 2), 8);
    }

    private static void centre() {
        fresh();
        Check.thrown("promise 16: no b", Check.INDEX, () -> loom.centre(0, 2));
        Check.thrown("promise 16: index ahead of argument", Check.INDEX, () -> loom.centre(4, 2));
        Check.thrown("promise 16: 4", Check.ARGUMENT, () -> loom.centre(4, 0));
        Check.thrown("promise 16: -1", Check.ARGUMENT, () -> loom.centre(-1, 0));
        kinds("promise 16: 3", loom.centre(3, lam), 15, 3, 0, 0);
        kinds("promise 16: 0", loom.centre(0, lam), 15, 0, 0, 0);
    }

    /** The 200th node is told, the 201st is not, by any call; other faults of a call go first. */
    private static void fullOfNodes() {
        fresh();
        for (int i = 2; i < 200; i++) {
            Check.due("node " + i, loom.num(i), i);
        }
        Check.thrown("promise 2: full", Check.STATE, () -> loom.num(0));
        Check.thrown("promise 3: full", Check.STATE, () -> loom.var(0));
        Check.thrown("promise 3: full, argument first", Check.ARGUMENT, () -> loom.var(16));
        Check.thrown("promise 4: full", Check.STATE, () -> loom.global(0));
        Check.thrown("promise 4: full, argument first", Check.ARGUMENT, () -> loom.global(8));
        Check.thrown("promise 5: full", Check.STATE, () -> loom.lam(0, 0));
        Check.thrown("promise 5: full, index first", Check.INDEX, () -> loom.lam(0, 200));
        Check.thrown("promise 6: full", Check.STATE, () -> loom.app(0, 0));
        Check.thrown("promise 6: full, argument first", Check.ARGUMENT, () -> loom.app(0, 1));
        Check.thrown("promise 7: full", Check.STATE, () -> loom.let(0, 0, 0));
        Check.thrown("promise 8: full", Check.STATE, () -> loom.con(0, NONE, NONE));
        Check.thrown("promise 8: full, argument first", Check.ARGUMENT, () -> loom.con(0, NONE, 0));
        Check.thrown("promise 9: full", Check.STATE, () -> loom.match(0, 0, 0, 0, 0, 0));
        Check.thrown("promise 10: full", Check.STATE, () -> loom.choose(0, 0, 0));
        Check.thrown("promise 11: full", Check.STATE, () -> loom.prim(0, 0, 0));
        Check.thrown("promise 12: full", Check.STATE, () -> loom.seq(0, 0));
        Check.thrown("promise 13: full", Check.STATE, () -> loom.raise(0));
        Check.thrown("promise 14: full", Check.STATE, () -> loom.hold(0, 0, 0));
        Check.thrown("promise 15: full", Check.STATE, () -> loom.par(0, 0));
        Check.thrown("promise 16: full", Check.STATE, () -> loom.centre(0, 0));
        Check.due("the 200 nodes can be used", loom.define(0, 199), 1);
        Check.due("and are as told", loom.node(0, 0, 1), 199);
    }

    /** A call that throws tells no node, and a node may be a part of many. */
    private static void shared() {
        fresh();
        Check.thrown("nothing is told", Check.ARGUMENT, () -> loom.prim(9, 0, 0));
        Check.thrown("nothing is told", Check.INDEX, () -> loom.seq(0, 50));
        int node = loom.prim(0, number, number);
        Check.due("the number after calls that threw", node, 2);
        for (int i = 0; i < 5; i++) {
            node = loom.prim(0, node, node);
        }
        int large = node;
        Check.thrown("127 nodes by sharing", Check.STATE, () -> loom.define(0, large));
        for (int i = 0; i < 100; i++) {
            node = loom.prim(0, node, node);
        }
        int huge = node;
        Check.thrown("2 to the 107th nodes", Check.STATE, () -> loom.define(0, huge));
    }
}
