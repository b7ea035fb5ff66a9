/** Promises 21 to 24: runs with sharing and without, their values and their counts. */
public final class RunningTest extends Runs {
    public static void main(String[] args) {
        wrongCalls();
        numbers();
        values();
        operations();
        lets();
        functions();
        matches();
        wrongs();
        raising();
        loops();
        endless();
        interrupts();
        kept();
        keptFromRunToRun();
        centres();
        strict();
        sparks();
        sparksThatAreNone();
        sparksOfGlobals();
        sparkSteps();
        plainly();
        Check.end("RunningTest");
    }

    private static void wrongCalls() {
        of("(lam x0 (lam x1 (- x0 x1)))");
        Check.thrown("promise 21: global 8", Check.ARGUMENT, () -> loom.run(8, 0, 0, 0, 0, false));
        Check.thrown("promise 21: global -1", Check.ARGUMENT, () -> loom.run(-1, 0, 0, 0, 0, false));
        Check.thrown("promise 21: many 3", Check.ARGUMENT, () -> loom.run(0, 3, 0, 0, 0, false));
        Check.thrown("promise 21: many -1", Check.ARGUMENT, () -> loom.run(0, -1, 0, 0, 0, false));
        Check.thrown("promise 21: interrupt 601", Check.ARGUMENT, () -> loom.run(0, 0, 0, 0, 601, false));
        Check.thrown("promise 21: interrupt -1", Check.ARGUMENT, () -> loom.run(0, 0, 0, 0, -1, false));
        Check.thrown("promise 21: no beginning", Check.STATE, () -> loom.run(0, 0, 0, 0, 0, true));
        Check.thrown("promise 21: argument first", Check.ARGUMENT, () -> loom.run(0, 0, 0, 0, 601, true));
        Check.thrown("promise 21: argument first", Check.ARGUMENT, () -> loom.run(8, 0, 0, 0, 0, true));
        Check.thrown("promise 22: global 8", Check.ARGUMENT, () -> loom.plainly(8, 0, 0, 0, false));
        Check.thrown("promise 22: many 3", Check.ARGUMENT, () -> loom.plainly(0, 3, 0, 0, false));
        Check.thrown("promise 22: no beginning", Check.STATE, () -> loom.plainly(0, 0, 0, 0, true));
        Check.thrown("promise 22: argument first", Check.ARGUMENT, () -> loom.plainly(0, -1, 0, 0, true));
        Check.thrown("promise 24: -1", Check.ARGUMENT, () -> loom.count(-1));
        Check.thrown("promise 24: 10", Check.ARGUMENT, () -> loom.count(10));
        ends("promise 21: on two", loom.run(0, 2, 9, 4, 600, false), NUMBER, 5);
        int steps = loom.count(0);
        Check.thrown("promise 21: it throws", Check.STATE, () -> loom.run(0, 0, 0, 0, 0, true));
        Check.due("promise 23: a call that throws is no run", loom.value(), 5);
        Check.due("promise 24: a call that throws is no run", loom.count(0), steps);
        ends("promise 21: on one", loom.run(0, 1, 9, 4, 0, false), FUNCTION, 0);
        ends("promise 21: on none", loom.run(0, 0, 9, 4, 0, false), FUNCTION, 0);
        ends("promise 22: on two", loom.plainly(0, 2, 9, 4, false), NUMBER, 5);
        ends("promise 22: on one", loom.plainly(0, 1, 9, 4, false), FUNCTION, 0);
    }

    private static void numbers() {
        run(NUMBER, 5, "5");
        counts("5", 1, 0, 0);
        run(NUMBER, 3, "(+ 1 2)");
        counts("(+ 1 2)", 4, 0, 1);
        of("(lam x0 (+ x0 1))");
        ends("promise 21: g0 on 4", loom.run(0, 1, 4, 0, 0, false), NUMBER, 5);
        counts("g0 on 4: APP GLOBAL PRIM VAR NUM", 5, 0, 0);
        of("(lam x0 (lam x1 (* x0 x1)))");
        ends("promise 21: g0 on -3 and 4", loom.run(0, 2, -3, 4, 0, false), NUMBER, -12);
        counts("APP APP GLOBAL LAM PRIM VAR VAR", 7, 0, 0);
        of("3");
        ends("promise 21: a number on a number", loom.run(0, 1, 4, 0, 0, false), WRONG, 0);
        counts("APP GLOBAL", 2, 0, 0);
    }

    private static void values() {
        both(FUNCTION, 0, "(lam x0 x0)");
        both(DATA, 0, "(con 0)");
        both(DATA, 31, "(con 3 5)");
        both(DATA, 22, "(con 2 5 g7)");
        both(DATA, 12, "(let x0 (raise 1) (con 1 x0 x0))");
        both(RAISED, -8, "(raise -8)");
        both(WRONG, 0, "(app 1 2)");
        of("(let x0 (+ 1 2) (con 2 x0))", "(match g0 2 x0 x1 x0 9)");
        ends("promise 21: data", loom.run(0, 0, 0, 0, 0, false), DATA, 21);
        ends("promise 21: data of a global", loom.run(1, 0, 0, 0, 0, false), NUMBER, 3);
    }

    private static void operations() {
        both(NUMBER, -2147483648, "(+ 2147483647 1)");
        both(NUMBER, 2147483647, "(- -2147483648 1)");
        both(NUMBER, -2, "(* 2147483647 2)");
        both(NUMBER, 1, "(< -1 0)");
        both(NUMBER, 0, "(< 0 0)");
        both(NUMBER, 0, "(< 1 0)");
        both(NUMBER, -2, "(/ -5 2)");
        both(NUMBER, -2, "(/ 5 -2)");
        both(NUMBER, -2147483648, "(/ -2147483648 -1)");
        both(RAISED, 0, "(/ 5 0)");
        both(NUMBER, 7, "(catch (/ 5 0) x0 (+ x0 7))");
        both(NUMBER, 1, "(if -1 1 2)");
        both(NUMBER, 2, "(if 0 1 2)");
        both(NUMBER, 2, "(seq (con 0) 2)");
        both(RAISED, 1, "(seq (raise 1) 2)");
    }

    private static void lets() {
        run(NUMBER, 6, "(let x0 (+ 1 2) (+ x0 x0))");
        counts("a cell found once", 8, 1, 2);
        plain(NUMBER, 6, "(let x0 (+ 1 2) (+ x0 x0))");
        counts("found twice without sharing", 11, 1, 0);
        run(NUMBER, 7, "(let x0 (raise 1) 7)");
        counts("never found", 3, 1, 1);
        run(NUMBER, 4, "(let x0 4 (seq x0 x0))");
        counts("a value at once", 5, 1, 1);
        run(NUMBER, 4, "(let x0 (let x1 4 x1) (seq x0 x0))");
        counts("a LET in a LET", 7, 2, 2);
        both(NUMBER, 9, "(let x0 1 (let x0 9 x0))");
        both(NUMBER, 3, "(let x0 (lam x1 (if x1 (let x2 (- x1 1) (app x0 x2)) 3)) (app x0 2))");
        both(NUMBER, 1, "(let x0 (con 1 1 x0) (match x0 1 x1 x2 (match x2 1 x3 x4 x3 7) 8))");
        run(NUMBER, 8, "(let x0 (+ 1 3) (let x1 x0 (+ x1 x0)))");
        counts("a VAR of a VAR", 10, 2, 3);
    }

    private static void functions() {
        run(NUMBER, 6, "(let x0 (+ 1 2) (app (lam x1 (+ x1 x1)) x0))");
        counts("an atom is the cell", 10, 1, 2);
        run(NUMBER, 6, "(app (lam x0 (+ x0 x0)) g1)", "(+ 1 2)");
        counts("an atom is the GLOBAL's cell", 9, 0, 2);
        run(NUMBER, 6, "(match (con 0 g1 g1) 0 x0 x1 (+ x0 x1) 9)", "(+ 1 2)");
        counts("fields are the GLOBAL's cell", 9, 0, 2);
        both(NUMBER, 3, "(let x0 1 (let x1 (lam x2 (+ x0 x2)) (let x0 50 (app x1 2))))");
        both(NUMBER, 5, "(app (app (lam x0 (lam x1 (- x0 x1))) 8) 3)");
        both(NUMBER, 4, "(app (lam x0 (app x0 3)) g1)", "(lam x0 (+ x0 1))");
        both(NUMBER, 7, "(app (lam x0 7) g5)");
        both(WRONG, 0, "(app (lam x0 x0) g5)");
        both(RAISED, 2, "(app (raise 2) 1)");
    }

    private static void matches() {
        both(NUMBER, 5, "(match (con 2 5 6) 2 x0 x1 x0 9)");
        both(NUMBER, 6, "(match (con 2 5 6) 2 x0 x1 x1 9)");
        both(NUMBER, 9, "(match (con 2 5 6) 3 x0 x1 x1 9)");
        both(NUMBER, 6, "(match (con 2 5 6) 2 x0 x0 x0 9)");
        both(WRONG, 0, "(match (con 2 5) 2 x0 x0 x0 9)");
        both(NUMBER, 5, "(match (con 2 5) 2 x0 x1 x0 9)");
        both(WRONG, 0, "(match (con 2 5) 2 x0 x1 x1 9)");
        both(WRONG, 0, "(let x1 3 (match (con 2 5) 2 x0 x1 x1 9))");
        both(WRONG, 0, "(let x0 3 (match (con 2) 2 x0 x1 x0 9))");
        both(NUMBER, 3, "(let x0 3 (match (con 2) 1 x0 x1 7 x0))");
        both(NUMBER, 4, "(match (con 2 5) 2 x0 x1 4 9)");
    }

    private static void wrongs() {
        both(WRONG, 0, "(match 1 0 x0 x1 1 2)");
        both(WRONG, 0, "(match (lam x0 x0) 0 x0 x1 1 2)");
        both(WRONG, 0, "(if (con 0) 1 2)");
        both(WRONG, 0, "(if (lam x0 x0) 1 2)");
        both(WRONG, 0, "(+ (con 0) (raise 1))");
        both(RAISED, 1, "(+ (raise 1) (con 0))");
        both(WRONG, 0, "(+ 1 (lam x0 x0))");
        both(RAISED, 1, "(/ 1 (raise 1))");
        both(WRONG, 0, "(raise (con 0))");
        both(RAISED, 3, "(raise (raise 3))");
        both(WRONG, 0, "(app (con 0) 1)");
        both(WRONG, 0, "g1");
        both(WRONG, 0, "(app g1 1)");
        both(NUMBER, 1, "(seq (con 0 g1) 1)");
        both(WRONG, 0, "(catch (app 1 2) x0 3)");
        String absent = "(match (con 0) 0 x0 x1 %s 9)";
        both(WRONG, 0, String.format(absent, "(app (lam x2 1) x0)"));
        both(WRONG, 0, String.format(absent, "(con 0 x0)"));
        both(WRONG, 0, String.format(absent, "(con 0 1 x1)"));
        both(WRONG, 0, String.format(absent, "(let x2 (con 0 x0) 1)"));
        both(NUMBER, 1, String.format(absent, "(let x2 x0 1)"));
        both(NUMBER, 1, String.format(absent, "(let x2 (lam x3 x0) 1)"));
        both(WRONG, 0, String.format(absent, "(par x0 1)"));
        both(WRONG, 0, String.format(absent, "(seq x1 1)"));
        run(WRONG, 0, "(+ (con 0) (+ 1 2))");
        counts("the left part is looked at as it is found", 3, 0, 0);
    }

    private static void raising() {
        both(NUMBER, 5, "(catch (raise 4) x0 (+ x0 1))");
        both(NUMBER, 6, "(catch (+ 2 4) x0 9)");
        both(RAISED, 5, "(catch (raise 4) x0 (raise (+ x0 1)))");
        both(NUMBER, 4, "(catch (catch (raise 4) x0 (raise x0)) x1 x1)");
        both(NUMBER, 2, "(catch (seq (catch 1 x0 7) (raise 2)) x1 x1)");
        both(NUMBER, 8, "(let x0 8 (catch (raise 4) x1 x0))");
        run(NUMBER, 5, "(catch (raise 4) x0 (+ x0 1))");
        counts("GLOBAL CATCH RAISE NUM PRIM VAR NUM", 7, 0, 1);
        run(NUMBER, 6, "(let x0 (raise 3) (catch x0 x1 (catch x0 x2 (+ x1 x2))))");
        counts("what raised is not found yet", 13, 1, 1);
        run(NUMBER, 3, "(catch g1 x0 (catch g1 x1 x1))", "(raise 3)");
        counts("a GLOBAL that raised is not found yet", 10, 0, 1);
        of("(raise 3)");
        loom.run(0, 0, 0, 0, 0, false);
        ends("promise 21: again", loom.run(0, 0, 0, 0, 0, false), RAISED, 3);
        counts("it is found again", 3, 0, 0);
        both(RAISED, 6, "(let x0 (+ 1 (raise 6)) (+ 1 x0))");
    }

    private static void loops() {
        run(LOOP, 0, "(let x0 x0 x0)");
        counts("GLOBAL LET VAR VAR", 4, 1, 0);
        plain(ENDLESS, 0, "(let x0 x0 x0)");
        counts("never black", 600, 1, 0);
        run(LOOP, 0, "g0");
        counts("GLOBAL GLOBAL", 2, 0, 0);
        plain(ENDLESS, 0, "g0");
        run(LOOP, 0, "(let x0 (+ x0 1) (catch x0 x1 3))");
        run(LOOP, 0, "g1", "(+ 1 g0)");
        of("(catch g1 x0 4)", "(+ 1 g1)", "(seq 1 g1)");
        ends("promise 21: not held", loom.run(0, 0, 0, 0, 0, false), LOOP, 0);
        ends("promise 21: cells are not black behind it", loom.run(2, 0, 0, 0, 0, false), LOOP, 0);
        counts("found as ahead", 7, 0, 0);
        run(NUMBER, 1, "(let x0 (con 1 x0) (match x0 1 x1 x2 (match x1 1 x3 x4 1 2) 3))");
    }

    private static void endless() {
        // 1 GLOBAL, 19 SEQs, 20 times an APP, a GLOBAL and 27 steps
        run(NUMBER, 1, twentyCalls(), "(lam x0 " + seqs(13) + ")");
        counts("600 steps", 600, 0, 1);
        plain(NUMBER, 1, twentyCalls(), "(lam x0 " + seqs(13) + ")");
        counts("600 steps without sharing", 600, 0, 0);
        run(ENDLESS, 0, "(centre 1 " + twentyCalls() + ")", "(lam x0 " + seqs(13) + ")");
        counts("601 steps", 600, 0, 0);
        centreCounts("601 steps", 2, 598, 0, 0);
        plain(ENDLESS, 0, "(centre 1 " + twentyCalls() + ")", "(lam x0 " + seqs(13) + ")");
        counts("601 steps without sharing", 600, 0, 0);
        both(ENDLESS, 0, "(catch (app g1 1) x0 2)", "(lam x0 (app g1 x0))");
        of("(lam x0 (+ 1 (app g0 x0)))");
        ends("promise 21: deep", loom.run(0, 1, 1, 0, 0, false), ENDLESS, 0);
        ends("promise 22: deep", loom.plainly(0, 1, 1, 0, false), ENDLESS, 0);
        of(twentyCalls(), "(lam x0 " + seqs(13) + ")");
        ends("promise 21: interrupted at the last one", loom.run(0, 0, 0, 0, 600, false), INTERRUPTED, 0);
        counts("599 steps", 599, 0, 0);
        of("(centre 1 " + twentyCalls() + ")", "(lam x0 " + seqs(13) + ")");
        ends("promise 21: not at the 601st", loom.run(0, 0, 0, 0, 0, false), ENDLESS, 0);
    }

    private static void interrupts() {
        for (int n = 1; n <= 9; n++) {
            of("(+ g1 1)", "(+ 2 3)");
            int how = loom.run(0, 0, 0, 0, n, false);
            ends("promise 21: ahead of " + n, how, n <= 7 ? INTERRUPTED : NUMBER, n <= 7 ? 0 : 6);
            counts("ahead of " + n, Math.min(n - 1, 7), 0, n < 7 ? 0 : n == 7 ? 1 : 2);
            ends("promise 21: behind it", loom.run(0, 0, 0, 0, 0, false), NUMBER, 6);
            counts("behind one ahead of " + n, n < 7 ? 7 : n == 7 ? 4 : 1, 0, n < 7 ? 2 : n == 7 ? 1 : 0);
        }
        of("(catch (+ 1 2) x0 4)");
        ends("promise 21: not held", loom.run(0, 0, 0, 0, 4, false), INTERRUPTED, 0);
        of("(let x0 (+ 1 2) (par x0 5))");
        ends("promise 21: no sparks then", loom.run(0, 0, 0, 0, 4, false), INTERRUPTED, 0);
        sparkCounts("interrupted", 0, 0, 0);
        ends("promise 21: steps of sparks are not interrupted", loom.run(0, 0, 0, 0, 5, false), NUMBER, 5);
        sparkCounts("not interrupted", 3, 0, 1);
    }

    private static void kept() {
        of("(+ 1 2)", "(+ g0 g0)", "(lam x0 (+ x0 g0))");
        loom.run(1, 0, 0, 0, 0, false);
        counts("found", 7, 0, 2);
        loom.run(0, 0, 0, 0, 0, false);
        counts("kept", 1, 0, 0);
        loom.run(2, 1, 4, 0, 0, false);
        counts("kept for others", 5, 0, 0);
        loom.begin();
        loom.run(1, 0, 0, 0, 0, false);
        counts("begin() takes nothing away", 1, 0, 0);
        loom.run(1, 0, 0, 0, 0, true);
        counts("the beginning has its own", 7, 0, 2);
        Words.define(loom, 2, "(lam x0 (+ x0 g0))");
        loom.run(0, 0, 0, 0, 0, false);
        counts("define() of the same one", 4, 0, 1);
        loom.run(1, 0, 0, 0, 0, true);
        counts("the beginning has kept it", 1, 0, 0);
        loom.begin();
        loom.run(1, 0, 0, 0, 0, true);
        counts("a new beginning has not", 7, 0, 2);
        Check.due("nothing to drop", loom.pass(LazyLoom.DEAD, 0), 0);
        loom.run(0, 0, 0, 0, 0, false);
        counts("a pass that tells 0", 1, 0, 0);
        Check.due("something to fold", loom.pass(LazyLoom.FOLD, 0), 1);
        loom.run(1, 0, 0, 0, 0, false);
        counts("a pass that tells 1", 4, 0, 1);
        int free = loom.var(0);
        Check.thrown("define() throws", Check.STATE, () -> loom.define(3, free));
        loom.run(1, 0, 0, 0, 0, false);
        counts("a call that throws", 1, 0, 0);
        loom.plainly(1, 0, 0, 0, false);
        counts("without sharing it does not count", 4, 0, 0);
        loom.run(1, 0, 0, 0, 0, false);
        counts("without sharing it stays", 1, 0, 0);
        Words.define(loom, 3, "(lam x0 (+ x0 (+ 1 (+ 2 (+ 3 (+ 4 5))))))");
        Words.define(loom, 0, twentyCalls().replace("g1", "g3"));
        loom.run(1, 0, 0, 0, 0, false);
        loom.run(1, 0, 0, 0, 0, false);
        counts("kept ahead of a pass that tells NONE", 1, 0, 0);
        Check.due("too large", loom.pass(LazyLoom.INLINE, 0), LazyLoom.NONE);
        loom.run(1, 0, 0, 0, 0, false);
        counts("a pass that tells NONE", 1, 0, 0);
    }

    /** What a GLOBAL's data leads to is found in later runs, and kept as well. */
    private static void keptFromRunToRun() {
        of("(app g1 0)", "(lam x0 (let x1 (+ x0 1) (let x2 (app g1 x1) (con 1 x0 x2))))",
            "(lam x0 (app (app g3 x0) g0))",
            "(lam x0 (lam x1 (match x1 1 x2 x3 (if x0 (let x4 (- x0 1) (app (app g3 x4) x3)) x2) 99)))");
        int[] firstSteps = new int[4];
        for (int i = 0; i < 4; i++) {
            ends("promise 21: of the row", loom.run(2, 1, 5, 0, 0, false), NUMBER, 5);
            firstSteps[i] = loom.count(0);
            for (int j = 0; j < 30; j++) {
                ends("promise 22: between", loom.plainly(2, 1, 6, 0, false), NUMBER, 6);
            }
        }
        Check.due("promise 21: fewer steps then", firstSteps[1] < firstSteps[0] ? 1 : 0, 1);
        Check.due("promise 21: all is found", firstSteps[2], firstSteps[1]);
        Check.due("promise 21: it stays", firstSteps[3], firstSteps[1]);
        ends("promise 21: a second one", loom.run(2, 1, 7, 0, 0, false), NUMBER, 7);
        ends("promise 21: a first one", loom.run(2, 1, 2, 0, 0, false), NUMBER, 2);
        Check.due("promise 24: updates of a second look", loom.count(2), 2);
    }

    private static void centres() {
        run(NUMBER, 4, "(centre 1 (let x0 (+ 1 2) (centre 2 (+ x0 1))))");
        centreCounts("e at the centre of the LET", 2, 5, 3, 0);
        run(NUMBER, 6, "(let x0 (centre 1 (lam x1 (+ x1 1))) (centre 2 (app x0 5)))");
        centreCounts("b at the centre of the APP", 4, 1, 5, 0);
        run(NUMBER, 1, "(catch (centre 3 (raise 1)) x0 x0)");
        centreCounts("b of a CATCH", 4, 0, 0, 2);
        run(NUMBER, 3, "(centre 2 g1)", "(+ 1 2)");
        centreCounts("a GLOBAL at 0", 5, 0, 1, 0);
        run(NUMBER, 5, "(centre 2 (seq (centre 1 1) (if (centre 3 1) (+ (centre 0 2) 3) 4)))");
        centreCounts("back to the centre of then", 3, 1, 7, 1);
        run(NUMBER, 7, "(centre 1 (match (centre 2 (con 0 7)) 0 x0 x1 x0 9))");
        centreCounts("MATCH", 2, 3, 1, 0);
        plain(NUMBER, 4, "(centre 1 (let x0 (+ 1 2) (centre 2 (+ x0 1))))");
        centreCounts("without sharing likewise", 2, 5, 3, 0);
    }

    private static void strict() {
        of("(let x0 (+ 1 2) (+ x0 x0))");
        Check.due("it is strict", loom.pass(LazyLoom.STRICTLY, 0), 1);
        ends("promise 21: STRICT", loom.run(0, 0, 0, 0, 0, false), NUMBER, 6);
        counts("STRICT has no cell", 8, 0, 1);
        of("(let x0 (centre 1 (raise 5)) (+ x0 x0))");
        loom.pass(LazyLoom.STRICTLY, 0);
        ends("promise 21: STRICT raises", loom.run(0, 0, 0, 0, 0, false), RAISED, 5);
        of("(let x0 (con 1 4) (match x0 1 x1 x2 (app (lam x3 (match x3 1 x4 x5 x4 8)) x0) 9))");
        loom.pass(LazyLoom.STRICTLY, 0);
        ends("promise 21: data of a STRICT as an atom", loom.run(0, 0, 0, 0, 0, false), NUMBER, 4);
        of("(centre 1 (let x0 (centre 2 1) (seq x0 3)))");
        loom.pass(LazyLoom.STRICTLY, 0);
        loom.run(0, 0, 0, 0, 0, false);
        centreCounts("STRICT", 2, 5, 1, 0);
    }

    private static void sparks() {
        run(NUMBER, 7, "(let x0 (+ 1 2) (par x0 7))");
        counts("a spark", 4, 1, 2);
        sparkCounts("a spark", 3, 0, 1);
        centreCounts("a spark", 4, 0, 0, 0);
        run(NUMBER, 3, "(let x0 (+ 1 2) (par x0 x0))");
        sparkCounts("it fizzles", 0, 1, 0);
        run(NUMBER, 7, "(let x0 1 (par x0 7))");
        sparkCounts("a value at once fizzles", 0, 1, 0);
        run(NUMBER, 7, "(let x0 (+ 1 2) (par x0 (par x0 7)))");
        sparkCounts("twice the same one", 3, 1, 1);
        run(NUMBER, 7, "(let x0 (+ 1 2) (let x1 (+ x0 1) (par x1 (par x0 7))))");
        sparkCounts("found by another one", 6, 1, 1);
        run(NUMBER, 7, "(let x0 (+ 1 2) (let x1 (+ x0 1) (par x0 (par x1 7))))");
        sparkCounts("in their order", 6, 0, 2);
        run(NUMBER, 7, "(let x0 (raise 1) (par x0 7))");
        sparkCounts("that raises", 2, 0, 1);
        counts("that raises", 4, 1, 1);
        run(NUMBER, 7, "(let x0 x0 (par x0 7))");
        sparkCounts("that loops", 1, 0, 1);
        run(NUMBER, 7, "(let x0 (let x1 (+ 1 1) (par x1 (let x2 3 x2))) (par x0 7))");
        sparkCounts("its own ones do not matter", 4, 0, 1);
        counts("its cells count", 4, 3, 2);
        run(NUMBER, 7, "(let x0 (centre 3 (+ 1 2)) (par x0 7))");
        centreCounts("its steps count apart", 4, 0, 0, 0);
        run(FUNCTION, 0, "(let x0 (+ 1 2) (par x0 (lam x1 x0)))");
        sparkCounts("of a function", 3, 0, 1);
        run(DATA, 1, "(let x0 (+ 1 2) (par x0 (con 0 x0)))");
        sparkCounts("of data", 3, 0, 1);
        run(RAISED, 8, "(let x0 (+ 1 2) (par x0 (raise 8)))");
        sparkCounts("a run that raised", 0, 0, 0);
        run(WRONG, 0, "(let x0 (+ 1 2) (par x0 (app 1 2)))");
        sparkCounts("a run that went wrong", 0, 0, 0);
        run(NUMBER, 9, "(let x0 (+ 1 2) (catch (par x0 (raise 9)) x1 x1))");
        sparkCounts("they stay where something raises", 3, 0, 1);
    }

    private static void sparksThatAreNone() {
        run(NUMBER, 7, "(app (lam x0 (par x0 7)) 5)");
        sparkCounts("a number", 0, 0, 0);
        run(NUMBER, 7, "(catch (raise 1) x0 (par x0 7))");
        sparkCounts("of a CATCH", 0, 0, 0);
        run(NUMBER, 7, "(match (con 0 1 2) 0 x0 x1 (par x0 (par x1 7)) 8)");
        sparkCounts("fields that are numbers", 0, 0, 0);
        of("(let x0 (lam x1 x1) (par x0 (seq x0 (app (lam x2 (par x2 6)) x0))))");
        Check.due("it is strict", loom.pass(LazyLoom.STRICTLY, 0), 1);
        ends("promise 21: of a STRICT", loom.run(0, 0, 0, 0, 0, false), NUMBER, 6);
        sparkCounts("of a STRICT", 0, 0, 0);
        String five = "(let x0 (+ 1 0) (let x1 (+ 1 1) (let x2 (+ 1 2) (let x3 (+ 1 3) (let x4 (+ 1 4) %s)))))";
        run(NUMBER, 7, String.format(five, "(par x0 (par x1 (par x2 (par x3 (par x4 7)))))"));
        sparkCounts("at most four", 12, 0, 4);
        run(NUMBER, 1, String.format(five, "(par x0 (par x1 (par x2 (par x0 (par x4 x0)))))"));
        sparkCounts("four, two of which fizzle", 6, 2, 2);
        run(NUMBER, 7, String.format(five, "(app (lam x5 (par x5 (par x0 (par x1 (par x2 (par x4 7)))))) 5)"));
        sparkCounts("a number takes no place", 12, 0, 4);
        run(WRONG, 0, "(match (con 0) 0 x1 x2 (let x0 2 (par x0 (par x0 (par x0 (par x0 (par x1 7)))))) 8)");
        sparkCounts("a field that is not there", 0, 0, 0);
    }

    private static void sparksOfGlobals() {
        run(NUMBER, 7, "(app (lam x0 (par x0 7)) g1)", "(+ 1 2)");
        sparkCounts("of a GLOBAL", 3, 0, 1);
        counts("of a GLOBAL", 5, 0, 2);
        loom.run(1, 0, 0, 0, 0, false);
        counts("it is kept", 1, 0, 0);
        Words.define(loom, 2, "(app (lam x0 (par x0 8)) g1)");
        loom.run(1, 0, 0, 0, 0, false);
        loom.run(2, 0, 0, 0, 0, false);
        sparkCounts("one that is kept fizzles", 0, 1, 0);
        run(NUMBER, 7, "(app (lam x0 (par x0 7)) g1)", "(lam x0 x0)");
        sparkCounts("a value at once", 0, 1, 0);
        run(NUMBER, 7, "(app (lam x0 (par x0 7)) g1)");
        sparkCounts("nothing", 0, 0, 1);
        run(NUMBER, 7, "(match (con 0 g1 g0) 0 x0 x1 (par x0 7) 8)", "(+ 1 (raise 2))");
        sparkCounts("a field", 4, 0, 1);
    }

    private static void sparkSteps() {
        StringBuilder ten = new StringBuilder("(app g1 5)");
        for (int i = 0; i < 9; i++) {
            ten = new StringBuilder("(seq (app g1 5) ").append(ten).append(')');
        }
        String body = "(lam x0 " + seqs(8) + ")";
        // 9 SEQs, 10 times an APP, a GLOBAL and 17 steps, and a CENTRE: 200
        run(NUMBER, 7, "(let x0 (centre 1 " + ten + ") (par x0 7))", body);
        sparkCounts("200 steps", 200, 0, 1);
        counts("200 steps", 4, 1, 2);
        run(NUMBER, 7, "(let x0 (centre 1 (centre 1 " + ten + ")) (par x0 7))", body);
        sparkCounts("201 steps", 200, 0, 1);
        counts("201 steps", 4, 1, 1);
        run(NUMBER, 7, "(let x0 (centre 1 " + ten + ") (let x1 (app g2 1) (par x1 (par x0 (par x1 7)))))", body,
            "(lam x9 " + ten + ")");
        sparkCounts("each has its own steps", 600, 0, 3);
        of("(let x0 (app g1 1) (par x0 7))", "(lam x0 (app g1 x0))");
        for (int i = 0; i < 3; i++) {
            ends("promise 21: endless sparks", loom.run(0, 0, 0, 0, 0, false), NUMBER, 7);
            sparkCounts("endless sparks", i == 0 ? 200 : 0, 0, i == 0 ? 1 : 0);
        }
    }

    private static void plainly() {
        plain(NUMBER, 7, "(let x0 (+ 1 2) (par x0 7))");
        counts("without sharing", 4, 1, 0);
        sparkCounts("without sharing", 0, 0, 0);
        plain(NUMBER, 6, "(+ g1 g1)", "(+ 1 2)");
        counts("a GLOBAL is found twice", 10, 0, 0);
        of("(+ 1 2)");
        loom.plainly(0, 0, 0, 0, false);
        loom.run(0, 0, 0, 0, 0, false);
        counts("a run without sharing keeps nothing", 4, 0, 1);
        of("(lam x0 (+ x0 g1))", "(+ 1 2)");
        loom.begin();
        Words.define(loom, 1, "5");
        ends("promise 22: of the beginning", loom.plainly(0, 1, 2, 0, true), NUMBER, 5);
        ends("promise 22: of now", loom.plainly(0, 1, 2, 0, false), NUMBER, 7);
        ends("promise 21: of the beginning", loom.run(0, 1, 2, 0, 0, true), NUMBER, 5);
        ends("promise 21: of now", loom.run(0, 1, 2, 0, 0, false), NUMBER, 7);
    }
}
