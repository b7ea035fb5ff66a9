/**
 * Runs of random calls, in which LazyLoom must answer as Naive does; and the aim of the document, that what passes make
 * has a value whenever what was ahead of them has one, the same, with no more cells.
 */
public final class OracleTest {
    private static final int PROGRAMS = 2500, MESSES = 400, AIMS = 400;
    private static final int NUMBERS = 0, DATA = 1, FUNCTIONS = 2;

    private static final int[] EXTREMES = {Integer.MIN_VALUE, Integer.MIN_VALUE + 1, Integer.MAX_VALUE,
        Integer.MAX_VALUE / 80, Integer.MIN_VALUE / 80, 1 << 26, 79, 80, 199, 200, 600, 601, 640};

    private static long seed;
    private static final int[] ends = new int[8];
    private static final int[] passes = new int[9];
    private static final int[] tooLarge = new int[9];

    private final Pair pair;
    private final int[] scope = new int[16];
    private final int names;
    private final int[] lams = new int[8];
    private final int[] types = new int[8];
    private int own;
    private final boolean isWild;
    private boolean isAim = false;

    private OracleTest(Pair pair) {
        this.pair = pair;
        names = random(6) == 0 ? 16 : 2 + random(4);
        isWild = random(4) == 0;
        java.util.Arrays.fill(scope, -1);
    }

    /** A fixed row of numbers that look like dice. */
    private static int random(int end) {
        seed = seed * 6364136223846793005L + 1442695040888963407L;
        return (int) ((seed >>> 33) % end);
    }

    public static void main(String[] args) {
        for (int i = 0; i < PROGRAMS; i++) {
            seed = 1000003L * i + 17;
            Pair pair = new Pair("program " + i);
            new OracleTest(pair).goThrough();
            Check.alike(pair.calls);
            if (Check.wrongs() > 3) {
                break;
            }
        }
        for (int i = 0; i < MESSES; i++) {
            seed = 7777777L * i + 5;
            Pair pair = new Pair("mess " + i);
            mess(pair);
            Check.alike(pair.calls);
            if (Check.wrongs() > 3) {
                break;
            }
        }
        for (int i = 0; i < AIMS && Check.wrongs() <= 3; i++) {
            seed = 424243L * i + 11;
            Pair pair = new Pair("aim " + i);
            new OracleTest(pair).aim();
            Check.alike(pair.calls);
        }
        tell("ends", ends);
        tell("written by passes", passes);
        tell("too large", tooLarge);
        for (int how = 0; how < 8; how++) {
            Check.due("some run ends as " + how, ends[how] > 20 ? 1 : 0, 1);
        }
        for (int pass = 0; pass < 9; pass++) {
            Check.due("pass " + pass + " writes something", passes[pass] > 20 ? 1 : 0, 1);
        }
        Check.end("OracleTest");
    }

    private static void tell(String what, int[] row) {
        System.out.println("  " + what + ": " + java.util.Arrays.toString(row));
    }

    private void goThrough() {
        int globals = 2 + random(7);
        boolean hasLarge = random(4) == 0;
        for (int g = 0; g < globals; g++) {
            lams[g] = random(3);
            types[g] = random(4) == 0 ? DATA : NUMBERS;
        }
        for (int g = 0; g < globals; g++) {
            int small = hasLarge ? 110 / globals : 185 / globals;
            define(g, globals, hasLarge && g == 0 ? 75 : hasLarge ? Math.min(9, small) : small);
        }
        for (int g = 0; g < 8; g++) {
            pair.lookAtGlobal(g);
        }
        int rules = random(4) * 2;
        for (int i = 0; i < rules; i++) {
            pair.rule(random(globals), random(globals), random(globals));
        }
        if (random(5) > 0) {
            pair.begin();
        }
        int turns = 10 + random(50);
        for (int turn = 0; turn < turns && !pair.isApart(); turn++) {
            doSomething(globals);
        }
    }

    /**
     * FUSE stays away, since a rule makes what it says, whether that is the same or not. So does CATCH: since RAISE needs
     * all names, STRICTLY may find what has no end ahead of what would be raised, and a CATCH tells them apart. And so do
     * fields that are not there: a LET of a SEQ with such a CON is WRONG when it is found, that of the CON at once.
     */
    private void aim() {
        isAim = true;
        int globals = 2 + random(7);
        for (int g = 0; g < globals; g++) {
            lams[g] = random(3);
            types[g] = random(4) == 0 ? DATA : NUMBERS;
        }
        for (int g = 0; g < globals; g++) {
            define(g, globals, 185 / globals);
        }
        pair.begin();
        for (int turn = 0; turn < 40; turn++) {
            pair.pass(random(LazyLoom.FUSE), random(globals));
        }
        for (int g = 0; g < globals; g++) {
            for (int turn = 0; turn < 3; turn++) {
                int a = random(12) - 2;
                int b = random(12) - 2;
                int how = pair.plainly(g, lams[g], a, b, true);
                int value = pair.value();
                int cells = pair.count(1);
                int howNow = pair.plainly(g, lams[g], a, b, false);
                if (how == LazyLoom.NUMBER || how == LazyLoom.FUNCTION || how == LazyLoom.DATA) {
                    Check.due("aim: how it ends", howNow, how);
                    Check.due("aim: its value", pair.value(), value);
                    Check.due("aim: no more cells", pair.count(1) <= cells ? 1 : 0, 1);
                }
            }
        }
    }

    private void define(int g, int globals, int budget) {
        own = g;
        java.util.Arrays.fill(scope, -1);
        int[] bound = new int[lams[g]];
        for (int i = 0; i < lams[g]; i++) {
            bound[i] = random(names);
            scope[bound[i]] = NUMBERS;
        }
        int node = tell(types[g], Math.max(1, Math.min(budget - lams[g], 70)), globals);
        for (int i = lams[g] - 1; i >= 0; i--) {
            node = pair.lam(bound[i], node);
        }
        pair.define(g, node);
    }

    private void doSomething(int globals) {
        int g = random(globals);
        int dice = random(20);
        if (dice < 8) {
            int interrupt = random(4) == 0 ? 1 + random(40) : 0;
            int how = pair.run(g, many(g), random(12) - 2, random(12) - 2, interrupt, random(3) == 0);
            count(how);
            pair.lookAtRun();
        } else if (dice < 10) {
            count(pair.plainly(g, many(g), random(12) - 2, random(12) - 2, random(3) == 0));
            pair.lookAtRun();
        } else if (dice < 18) {
            int pass = random(9);
            int written = pair.pass(pass, g);
            passes[pass] += written > 0 ? written : 0;
            tooLarge[pass] += written == LazyLoom.NONE ? 1 : 0;
            pair.lookAtGlobal(g);
        } else if (dice < 19) {
            pair.begin();
            pair.size(g, true);
        } else if (pair.told > 0) {
            pair.define(random(8), random(pair.told));
        }
    }

    private int many(int g) {
        return random(8) == 0 ? random(3) : Math.min(2, lams[g]);
    }

    private static void count(int how) {
        if (how >= 0 && how < 8) {
            ends[how]++;
        }
    }

    // ---- expressions, most of which make sense

    private int tell(int type, int budget, int globals) {
        if (isWild && random(8) == 0) {
            type = random(3);
        }
        if (budget < 3) {
            return leaf(type, globals);
        }
        int left = budget - 1;
        if (left > 20 && random(3) == 0) {
            return pair.seq(tell(type, left / 2, globals), tell(type, left / 2, globals));
        }
        switch (random(16)) {
            case 0:
            case 1:
            case 2:
            case 3:
                return tellLet(type, left, globals);
            case 4:
                return pair.choose(tell(NUMBERS, left / 3, globals), tell(type, left / 3, globals),
                    tell(type, left / 3, globals));
            case 5: {
                int data = tell(DATA, left / 3, globals);
                int x = random(names);
                int y = random(names);
                int b = tellIn(x, y, NUMBERS, type, left / 3, globals);
                return pair.match(data, random(3), x, y, b, tell(type, left / 3, globals));
            }
            case 6:
                return pair.seq(tell(random(3), left / 2, globals), tell(type, left / 2, globals));
            case 7: {
                if (isAim) {
                    return tellOwn(type, left, globals);
                }
                int held = tell(type, left / 2, globals);
                int x = random(names);
                return pair.hold(held, x, tellIn(x, x, NUMBERS, type, left / 2, globals));
            }
            case 8: {
                int x = anyName();
                return x < 0 ? leaf(type, globals) : pair.par(x, tell(type, left, globals));
            }
            case 9:
                return pair.centre(random(4), tell(type, left, globals));
            case 10:
                return random(3) == 0 ? pair.raise(tell(NUMBERS, left, globals)) : tell(type, left, globals);
            case 11:
                return tellCall(type, left, globals);
            case 12:
                return tellBeta(type, left, globals);
            default:
                return tellOwn(type, left, globals);
        }
    }

    private int tellOwn(int type, int left, int globals) {
        if (type == NUMBERS) {
            if (random(4) == 0) {
                return pair.app(tell(FUNCTIONS, left / 2, globals), leaf(NUMBERS, globals));
            }
            return pair.prim(random(5), tell(NUMBERS, left / 2, globals), tell(NUMBERS, left / 2, globals));
        }
        if (type == FUNCTIONS) {
            int x = random(names);
            return pair.lam(x, tellIn(x, x, NUMBERS, NUMBERS, left, globals));
        }
        return leaf(DATA, globals);
    }

    private int tellIn(int x, int y, int bound, int type, int budget, int globals) {
        int oldX = scope[x];
        int oldY = scope[y];
        scope[x] = bound;
        scope[y] = bound;
        int node = tell(type, budget, globals);
        scope[y] = oldY;
        scope[x] = oldX;
        return node;
    }

    private int tellLet(int type, int left, int globals) {
        int x = random(names);
        if (random(6) == 0) {
            // What FUSE looks for, with f and g any globals.
            int inner = pair.app(pair.global(random(globals)), leaf(NUMBERS, globals));
            int outer = pair.app(pair.global(random(globals)), pair.var(x));
            return pair.let(x, inner, outer);
        }
        int bound = random(3) == 0 ? DATA : random(4) == 0 ? FUNCTIONS : NUMBERS;
        int e = random(10) == 0 ? tellIn(x, x, bound, bound, left / 2, globals) : tell(bound, left / 2, globals);
        int b;
        if (left > 12 && random(4) == 0) {
            // What FLOAT looks for.
            int a = tell(NUMBERS, left / 6, globals);
            int one = tellIn(x, x, bound, type, left / 6, globals);
            b = pair.choose(a, one, tell(type, left / 6, globals));
        } else {
            b = tellIn(x, x, bound, type, left / 2, globals);
        }
        return pair.let(x, e, b);
    }

    private int tellBeta(int type, int left, int globals) {
        int x = random(names);
        int b = tellIn(x, x, NUMBERS, type, left - 2, globals);
        return pair.app(pair.lam(x, b), leaf(NUMBERS, globals));
    }

    private int tellCall(int type, int left, int globals) {
        int g = random(globals);
        for (int i = 0; i < globals && (types[g] != type || g <= own && random(6) > 0); i++) {
            g = (g + 1) % globals;
        }
        if (types[g] != type || 2 * lams[g] + 1 > left) {
            return leaf(type, globals);
        }
        int call = pair.global(g);
        for (int i = 0; i < lams[g]; i++) {
            call = pair.app(call, leaf(NUMBERS, globals));
        }
        return call;
    }

    private int anyName() {
        int x = random(names);
        for (int i = 0; i < names; i++) {
            if (scope[x] >= 0) {
                return x;
            }
            x = (x + 1) % names;
        }
        return -1;
    }

    private int nameOf(int type) {
        int x = random(names);
        for (int i = 0; i < names; i++) {
            if (scope[x] == type) {
                return x;
            }
            x = (x + 1) % names;
        }
        return -1;
    }

    private int leaf(int type, int globals) {
        int x = nameOf(type);
        if (x >= 0 && random(4) > 0) {
            return pair.var(x);
        }
        if (random(25) == 0) {
            return pair.global(random(8));
        }
        if (type == DATA && pair.told < 195) {
            int fields = isAim ? 2 : random(3);
            int first = fields > 0 ? leaf(NUMBERS, globals) : LazyLoom.NONE;
            int second = fields > 1 ? leaf(NUMBERS, globals) : LazyLoom.NONE;
            return pair.con(random(3), first, second);
        }
        if (type == FUNCTIONS && pair.told < 195) {
            int z = random(names);
            return pair.lam(z, pair.var(z));
        }
        return pair.num(random(14) - 3);
    }

    // ---- calls that make no sense

    private static int about(int end) {
        if (random(60) == 0) {
            return EXTREMES[random(EXTREMES.length)];
        }
        return random(7) == 0 ? random(end + 4) - 2 : random(end);
    }

    private static int some(Pair pair) {
        return about(Math.max(1, pair.told));
    }

    private static void mess(Pair pair) {
        int atoms = 3 + random(6);
        for (int i = 0; i < atoms; i++) {
            pair.var(random(3));
            pair.num(random(5));
        }
        for (int i = 0; i < 480 && !pair.isApart(); i++) {
            messOnce(pair, random(26));
        }
    }

    private static void messOnce(Pair pair, int dice) {
        switch (dice) {
            case 0: pair.num(random(9)); break;
            case 1: pair.var(about(16)); break;
            case 2: pair.global(about(8)); break;
            case 3: case 4: pair.lam(about(4), some(pair)); break;
            case 5: pair.app(some(pair), random(2) == 0 ? some(pair) : about(6)); break;
            case 6: pair.let(about(4), some(pair), some(pair)); break;
            case 7: pair.con(about(4), about(8), about(8)); break;
            case 8: pair.match(some(pair), about(4), about(4), about(4), some(pair), some(pair)); break;
            case 9: pair.choose(some(pair), some(pair), some(pair)); break;
            case 10: pair.prim(about(5), some(pair), some(pair)); break;
            case 11: pair.seq(some(pair), some(pair)); break;
            case 12: pair.raise(some(pair)); break;
            case 13: pair.hold(some(pair), about(4), some(pair)); break;
            case 14: pair.par(about(4), some(pair)); break;
            case 15: pair.centre(about(4), some(pair)); break;
            case 16: case 17: case 18: pair.define(about(8), some(pair)); break;
            case 19: pair.rule(about(8), about(8), about(8)); break;
            case 20: if (random(8) == 0) { pair.begin(); } break;
            case 21: pair.pass(about(9), about(8)); break;
            case 22:
                pair.run(about(8), about(3), random(5), random(5), random(3) == 0 ? about(601) : 0, random(3) == 0);
                pair.value();
                pair.count(about(10));
                break;
            case 23:
                pair.plainly(about(8), about(3), random(5), random(5), random(3) == 0);
                pair.value();
                pair.count(about(10));
                break;
            case 24: pair.needed(about(8), about(3)); pair.size(about(8), random(3) == 0); break;
            default: pair.node(about(8), about(20), about(4)); break;
        }
    }
}
