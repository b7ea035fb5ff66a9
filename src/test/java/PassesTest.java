/** Promise 20: what each pass writes anew, and what it leaves. */
public final class PassesTest {
    private static LazyLoom loom;
    private static String title;

    public static void main(String[] args) {
        fold();
        dead();
        beta();
        betaBinders();
        known();
        once();
        strictly();
        strictlyByGlobals();
        inline();
        floatIn();
        fuse();
        Check.end("PassesTest");
    }

    private static void fresh(String pass) {
        title = "promise 20: " + pass + ": ";
        loom = new LazyLoom();
    }

    /** Asks what a pass makes of an expression under LAMs that bind the names 0 to 3. */
    private static void makes(int pass, String ahead, int written, String behind) {
        if (written == 0) {
            behind = ahead;
        }
        String lams = "(lam x0 (lam x1 (lam x2 (lam x3 ";
        LazyLoom own = loom;
        own.define(7, Words.of(lams + ahead + "))))").tell(own));
        Check.due(title + ahead, own.pass(pass, 7), written);
        Words.due(title + ahead, own, 7, lams + behind + "))))");
    }

    private static void leaves(int pass, String ahead) {
        makes(pass, ahead, 0, ahead);
    }

    private static void fold() {
        int pass = LazyLoom.FOLD;
        fresh("FOLD");
        makes(pass, "(+ 2147483647 1)", 1, "-2147483648");
        makes(pass, "(- -2147483648 1)", 1, "2147483647");
        makes(pass, "(* 65536 65537)", 1, "65536");
        makes(pass, "(< 2 3)", 1, "1");
        makes(pass, "(< 3 3)", 1, "0");
        makes(pass, "(/ -7 2)", 1, "-3");
        makes(pass, "(/ 7 -2)", 1, "-3");
        makes(pass, "(/ -2147483648 -1)", 1, "-2147483648");
        leaves(pass, "(/ 7 0)");
        makes(pass, "(+ (/ 7 0) (+ 1 1))", 1, "(+ (/ 7 0) 2)");
        fresh("FOLD");
        leaves(pass, "(+ x0 1)");
        leaves(pass, "(+ 1 x0)");
        makes(pass, "(if 0 x0 x1)", 1, "x1");
        makes(pass, "(if -3 x0 x1)", 1, "x0");
        leaves(pass, "(if x0 x0 x1)");
        makes(pass, "(if (- 1 1) (+ 1 2) x1)", 3, "x1");
        makes(pass, "(seq 1 x0)", 1, "x0");
        makes(pass, "(seq (lam x0 x0) x0)", 1, "x0");
        makes(pass, "(seq (con 1 x0) x1)", 1, "x1");
        leaves(pass, "(seq x0 x1)");
        leaves(pass, "(seq g0 x1)");
        makes(pass, "(seq (seq 1 2) (+ 1 2))", 3, "3");
        fresh("FOLD");
        leaves(pass, "(raise 1)");
        leaves(pass, "(if (con 1) 2 3)");
        makes(pass, "(lam x0 (let x1 (+ 1 2) (match (con 0) 1 x0 x1 (+ 3 4) (+ 5 6))))", 3,
            "(lam x0 (let x1 3 (match (con 0) 1 x0 x1 7 11)))");
        makes(pass, "(catch (raise (+ 1 1)) x0 (par x1 (centre 2 (- 1 1))))", 2,
            "(catch (raise 2) x0 (par x1 (centre 2 0)))");
    }

    private static void dead() {
        int pass = LazyLoom.DEAD;
        fresh("DEAD");
        makes(pass, "(let x0 (raise 1) x1)", 1, "x1");
        leaves(pass, "(let x0 (raise 1) x0)");
        makes(pass, "(let x0 x0 (lam x0 x0))", 1, "(lam x0 x0)");
        leaves(pass, "(let x0 1 (par x0 2))");
        makes(pass, "(let x0 1 (let x1 x0 x2))", 2, "x2");
        makes(pass, "(let x0 1 (let x0 2 x0))", 1, "(let x0 2 x0)");
        leaves(pass, "(let x0 1 (match x0 0 x0 x1 x2 x3))");
        leaves(pass, "(let x0 1 (match x1 0 x0 x1 x2 x0))");
        makes(pass, "(let x0 1 (match x1 0 x0 x1 x0 x3))", 1, "(match x1 0 x0 x1 x0 x3)");
        makes(pass, "(let x1 1 (match x2 0 x0 x1 x1 x3))", 1, "(match x2 0 x0 x1 x1 x3)");
        makes(pass, "(let x0 1 (catch x1 x0 x0))", 1, "(catch x1 x0 x0)");
        leaves(pass, "(let x0 1 (catch x0 x0 x0))");
        strictForDead("7", 1);
        strictForDead("(lam x5 x5)", 1);
        strictForDead("(con 1 x2)", 1);
        strictForDead("(+ 1 2)", 0);
        strictForDead("x2", 0);
        strictForDead("g0", 0);
    }

    /** A RAISE needs all names, so that STRICTLY makes a STRICT whose name is not free in b. */
    private static void strictForDead(String e, int written) {
        fresh("DEAD of a STRICT");
        String lams = "(lam x2 (lam x3 ";
        Words.define(loom, 7, lams + "(let x0 " + e + " (raise x3))))");
        Check.due(title + "all is needed", loom.pass(LazyLoom.STRICTLY, 7), 1);
        Check.due(title + "where x0 is not free", loom.pass(LazyLoom.DEAD, 7), written);
        Words.due(title + e, loom, 7, lams + (written == 1 ? "(raise x3)" : "(strict x0 " + e + " (raise x3))") + "))");
        Words.define(loom, 7, lams + "(let x0 " + e + " (raise x0))))");
        Check.due(title + "it is needed", loom.pass(LazyLoom.STRICTLY, 7), 1);
        Check.due(title + "where x0 is free", loom.pass(LazyLoom.DEAD, 7), 0);
    }

    private static void beta() {
        int pass = LazyLoom.BETA;
        fresh("BETA");
        makes(pass, "(app (lam x0 (+ x0 x0)) 5)", 1, "(+ 5 5)");
        makes(pass, "(app (lam x0 x0) x1)", 1, "x1");
        makes(pass, "(app (lam x0 (seq x0 g1)) g3)", 1, "(seq g3 g1)");
        makes(pass, "(app (lam x0 x1) x2)", 1, "x1");
        leaves(pass, "(app x0 1)");
        leaves(pass, "(app g0 1)");
        makes(pass, "(app (app (lam x0 (lam x1 (+ x0 x1))) 1) 2)", 2, "(+ 1 2)");
        makes(pass, "(app (lam x0 (app x0 3)) x1)", 1, "(app x1 3)");
        makes(pass, "(app (lam x0 (app (lam x1 x1) x0)) 3)", 2, "3");
        leaves(pass, "(app (lam x0 (par x0 x0)) x1)");
        leaves(pass, "(app (lam x0 (par x0 1)) 2)");
        makes(pass, "(app (lam x0 (par x1 x0)) x1)", 1, "(par x1 x1)");
        fresh("BETA");
        makes(pass, "(app (lam x0 (lam x0 (par x0 x0))) x1)", 1, "(lam x0 (par x0 x0))");
        makes(pass, "(app (lam x0 (con 1 x0 x0)) x0)", 1, "(con 1 x0 x0)");
        makes(pass, "(app (lam x0 (lam x1 x1)) x1)", 1, "(lam x1 x1)");
        makes(pass, "(app (lam x0 (seq x0 (lam x1 x1))) x1)", 1, "(seq x1 (lam x1 x1))");
        makes(pass, "(app (lam x0 (lam x1 x0)) x2)", 1, "(lam x1 x2)");
        makes(pass, "(app (lam x0 (lam x1 x0)) 9)", 1, "(lam x1 9)");
        makes(pass, "(app (lam x0 (app (lam x2 (lam x1 x0)) 1)) 2)", 2, "(lam x1 2)");
        // a rule does not look at what it has written
        makes(pass, "(app (lam x0 (app x0 1)) x1)", 1, "(app x1 1)");
        makes(pass, "(app (seq 1 (lam x0 x0)) 2)", 0, "");
    }

    /** Where each binder binds its name, a VAR x caught in it is not put, and elsewhere it is. */
    private static void betaBinders() {
        int pass = LazyLoom.BETA;
        fresh("BETA and binders");
        leaves(pass, "(app (lam x0 (lam x1 x0)) x1)");
        leaves(pass, "(app (lam x0 (let x1 x0 2)) x1)");
        leaves(pass, "(app (lam x0 (let x1 2 x0)) x1)");
        leaves(pass, "(app (lam x0 (match 1 0 x1 x2 x0 3)) x1)");
        leaves(pass, "(app (lam x0 (match 1 0 x2 x1 x0 3)) x1)");
        makes(pass, "(app (lam x0 (match x0 0 x1 x2 3 x0)) x1)", 1, "(match x1 0 x1 x2 3 x1)");
        leaves(pass, "(app (lam x0 (catch 1 x1 x0)) x1)");
        makes(pass, "(app (lam x0 (catch x0 x1 1)) x1)", 1, "(catch x1 x1 1)");
        leaves(pass, "(app (lam x0 (+ x0 (lam x2 (seq 1 (lam x1 x0))))) x1)");
        makes(pass, "(app (lam x0 (lam x1 (lam x0 x0))) x1)", 1, "(lam x1 (lam x0 x0))");
        makes(pass, "(app (lam x0 (let x0 x0 x0)) 5)", 1, "(let x0 x0 x0)");
        fresh("BETA and binders");
        makes(pass, "(app (lam x0 (match x0 0 x0 x2 x0 x0)) 5)", 1, "(match 5 0 x0 x2 x0 5)");
        makes(pass, "(app (lam x0 (match x0 0 x2 x0 x0 x0)) 5)", 1, "(match 5 0 x2 x0 x0 5)");
        makes(pass, "(app (lam x0 (catch x0 x0 x0)) 5)", 1, "(catch 5 x0 x0)");
        fresh("BETA and STRICT");
        String strict = "(lam x1 (app (lam x0 (strict x1 %s)) x1))";
        Words.define(loom, 0, "(lam x1 (app (lam x0 (let x1 (+ 1 2) (+ x1 x0))) x1))");
        loom.pass(LazyLoom.STRICTLY, 0);
        Check.due(title + "in its b", loom.pass(pass, 0), 0);
        Words.due(title + "in its b", loom, 0, String.format(strict, "(+ 1 2) (+ x1 x0)"));
        Words.define(loom, 0, "(lam x1 (app (lam x0 (let x1 (+ x0 2) (+ x1 3))) x1))");
        loom.pass(LazyLoom.STRICTLY, 0);
        Check.due(title + "in its e", loom.pass(pass, 0), 1);
        Words.due(title + "in its e", loom, 0, "(lam x1 (strict x1 (+ x1 2) (+ x1 3)))");
    }

    private static void known() {
        int pass = LazyLoom.KNOWN;
        fresh("KNOWN");
        makes(pass, "(match (con 1 x0 x1) 2 x2 x3 x2 x1)", 1, "x1");
        makes(pass, "(match (con 1 x0 x1) 1 x4 x5 (+ x4 x5) 9)", 1, "(+ x0 x1)");
        makes(pass, "(match (con 1 5) 1 x4 x5 (+ x4 x4) 9)", 1, "(+ 5 5)");
        leaves(pass, "(match (con 1 5) 1 x4 x5 (+ x4 x5) 9)");
        makes(pass, "(match (con 1) 1 x4 x5 7 9)", 1, "7");
        leaves(pass, "(match (con 1) 1 x4 x5 x4 9)");
        leaves(pass, "(match (con 1) 1 x4 x5 x5 9)");
        leaves(pass, "(match (con 1) 1 x4 x5 (par x5 1) 9)");
        leaves(pass, "(match (con 1 2 3) 1 x4 x4 1 9)");
        makes(pass, "(match (con 1 2 3) 0 x4 x4 x4 9)", 1, "9");
        leaves(pass, "(match x0 1 x4 x5 1 9)");
        fresh("KNOWN");
        leaves(pass, "(match (con 1 x2 x0) 1 x2 x3 1 9)");
        leaves(pass, "(match (con 1 x0 x2) 1 x2 x3 1 9)");
        makes(pass, "(match (con 1 x3 x0) 1 x2 x3 (con 0 x2 x3) 9)", 1, "(con 0 x3 x0)");
        makes(pass, "(match (con 1 x3 x3) 1 x2 x3 (con 0 x2 x3) 9)", 1, "(con 0 x3 x3)");
        makes(pass, "(match (con 1 x0 x3) 1 x2 x3 (con 0 x2 x3) 9)", 1, "(con 0 x0 x3)");
        leaves(pass, "(match (con 1 x0 x1) 1 x4 x5 (par x4 1) 9)");
        leaves(pass, "(match (con 1 x0 x1) 1 x4 x5 (par x5 1) 9)");
        leaves(pass, "(match (con 1 x0 x1) 1 x4 x5 (lam x0 x4) 9)");
        leaves(pass, "(match (con 1 x0 x1) 1 x4 x5 (lam x1 x5) 9)");
        makes(pass, "(match (con 1 x0 x1) 1 x4 x5 (lam x1 x4) 9)", 1, "(lam x1 x0)");
        makes(pass, "(match (con 1 x0 x1) 1 x4 x5 (lam x0 x5) 9)", 1, "(lam x0 x1)");
        fresh("KNOWN");
        makes(pass, "(match (con 3 g1 2) 3 x4 x5 (match (con 0) 0 x6 x7 (seq x4 x5) 1) 9)", 2, "(seq g1 2)");
        makes(pass, "(match (match (con 0) 0 x6 x7 (con 2 1 2) 5) 2 x4 x5 x5 9)", 2, "2");
    }

    private static void once() {
        int pass = LazyLoom.ONCE;
        fresh("ONCE");
        makes(pass, "(let x4 (+ x0 1) (+ x4 x1))", 1, "(+ (+ x0 1) x1)");
        makes(pass, "(let x4 (+ x0 1) x4)", 1, "(+ x0 1)");
        leaves(pass, "(let x4 (+ x0 1) (+ x4 x4))");
        leaves(pass, "(let x4 (+ x0 1) x1)");
        leaves(pass, "(let x4 (+ x4 1) x4)");
        leaves(pass, "(let x4 (+ x0 1) (lam x5 x4))");
        leaves(pass, "(let x4 (+ x0 1) (+ 1 (lam x5 (seq x4 x5))))");
        leaves(pass, "(let x4 (+ x0 1) (centre 1 x4))");
        leaves(pass, "(let x4 (+ x0 1) (seq 1 (centre 1 (seq x4 1))))");
        leaves(pass, "(let x4 (+ x0 1) (app x0 x4))");
        makes(pass, "(let x4 (lam x5 x5) (app x4 x0))", 1, "(app (lam x5 x5) x0)");
        leaves(pass, "(let x4 (+ x0 1) (con 0 x4))");
        leaves(pass, "(let x4 (+ x0 1) (con 0 1 x4))");
        fresh("ONCE");
        leaves(pass, "(let x4 (+ x0 1) (par x4 x4))");
        leaves(pass, "(let x4 (+ x0 1) (par x4 1))");
        makes(pass, "(let x4 (+ x0 1) (lam x4 x4))", 0, "");
        makes(pass, "(let x4 (+ x0 1) (seq x4 (lam x4 (par x4 x4))))", 1, "(seq (+ x0 1) (lam x4 (par x4 x4)))");
        leaves(pass, "(let x4 (+ x0 1) (let x0 2 (seq x4 (+ x0 x0))))");
        makes(pass, "(let x4 (+ x1 1) (let x0 x4 (+ x0 x0)))", 1, "(let x0 (+ x1 1) (+ x0 x0))");
        makes(pass, "(let x4 (lam x5 x5) (match x4 0 x6 x7 1 2))", 1, "(match (lam x5 x5) 0 x6 x7 1 2)");
        leaves(pass, "(let x4 (+ x0 x1) (match 1 0 x6 x1 x4 2))");
        makes(pass, "(let x4 (+ x0 x1) (match 1 0 x6 x1 2 x4))", 1, "(match 1 0 x6 x1 2 (+ x0 x1))");
        makes(pass, "(let x4 (let x5 (+ 1 x0) x5) (seq 1 x4))", 2, "(seq 1 (+ 1 x0))");
        makes(pass, "(let x4 1 (let x5 x4 (- x5 1)))", 2, "(- 1 1)");
        fresh("ONCE");
        makes(pass, "(let x4 (par x0 x0) (if x4 1 2))", 1, "(if (par x0 x0) 1 2)");
        leaves(pass, "(let x4 (par x0 1) (catch 3 x0 x4))");
        leaves(pass, "(let x4 (par x4 1) (if x4 1 2))");
        makes(pass, "(let x4 (+ x0 1) (catch x4 x0 x0))", 1, "(catch (+ x0 1) x0 x0)");
    }

    private static void strictly() {
        int pass = LazyLoom.STRICTLY;
        fresh("STRICTLY");
        makes(pass, "(let x4 (+ x0 1) (+ x4 x4))", 1, "(strict x4 (+ x0 1) (+ x4 x4))");
        leaves(pass, "(let x4 (+ x4 1) (+ x4 x4))");
        leaves(pass, "(let x4 (par x4 1) x4)");
        leaves(pass, "(let x4 1 (lam x0 x4))");
        leaves(pass, "(let x4 1 (con 0 x4))");
        leaves(pass, "(let x4 1 (catch x4 x0 x4))");
        leaves(pass, "(let x4 1 (app x0 x4))");
        makes(pass, "(let x4 (lam x0 x0) (app x4 x0))", 1, "(strict x4 (lam x0 x0) (app x4 x0))");
        makes(pass, "(let x4 1 (raise 2))", 1, "(strict x4 1 (raise 2))");
        makes(pass, "(let x4 1 (if x4 1 2))", 1, "(strict x4 1 (if x4 1 2))");
        makes(pass, "(let x4 1 (if x0 x4 (seq x1 x4)))", 1, "(strict x4 1 (if x0 x4 (seq x1 x4)))");
        leaves(pass, "(let x4 1 (if x0 x4 2))");
        leaves(pass, "(let x4 1 (if x0 2 x4))");
        makes(pass, "(let x4 1 (if x0 x4 (raise 2)))", 1, "(strict x4 1 (if x0 x4 (raise 2)))");
        fresh("STRICTLY");
        makes(pass, "(let x4 1 (match x4 0 x5 x6 1 2))", 1, "(strict x4 1 (match x4 0 x5 x6 1 2))");
        makes(pass, "(let x4 1 (match x0 0 x5 x6 x4 x4))", 1, "(strict x4 1 (match x0 0 x5 x6 x4 x4))");
        leaves(pass, "(let x4 1 (match x0 0 x4 x6 x4 x4))");
        leaves(pass, "(let x4 1 (match x0 0 x6 x4 x4 x4))");
        leaves(pass, "(let x4 1 (match x0 0 x5 x6 x4 2))");
        leaves(pass, "(let x4 1 (match x0 0 x5 x6 2 x4))");
        makes(pass, "(let x4 1 (seq x0 x4))", 1, "(strict x4 1 (seq x0 x4))");
        makes(pass, "(let x4 1 (centre 2 (par x0 x4)))", 1, "(strict x4 1 (centre 2 (par x0 x4)))");
        leaves(pass, "(let x4 1 (par x4 2))");
        makes(pass, "(let x4 1 (let x5 x4 x5))", 2, "(strict x4 1 (strict x5 x4 x5))");
        leaves(pass, "(let x4 1 (let x5 x4 2))");
        leaves(pass, "(let x4 1 (let x4 2 (con 0 x4)))");
        makes(pass, "(let x4 1 (let x4 2 x4))", 1, "(let x4 1 (strict x4 2 x4))");
        fresh("STRICTLY");
        makes(pass, "(let x4 1 (let x5 (+ x5 x4) x5))", 1, "(strict x4 1 (let x5 (+ x5 x4) x5))");
        makes(pass, "(let x4 1 (seq (let x5 x4 3) x0))", 0, "");
        makes(pass, "(let x4 1 (lam x0 (let x5 2 x5)))", 1, "(let x4 1 (lam x0 (strict x5 2 x5)))");
        // the parts are looked at as they are by then: a STRICT needs all that its e needs
        makes(pass, "(let x4 1 (let x4 (raise 1) x4))", 2, "(strict x4 1 (strict x4 (raise 1) x4))");
    }

    private static void strictlyByGlobals() {
        int pass = LazyLoom.STRICTLY;
        fresh("STRICTLY by globals");
        Words.define(loom, 0, "(lam x0 (lam x1 (if x0 x1 3)))");
        Words.define(loom, 1, "(lam x0 (lam x1 (if x0 x1 (app (app g1 x0) x1))))");
        makes(pass, "(let x4 1 (app (app g0 x4) 2))", 1, "(strict x4 1 (app (app g0 x4) 2))");
        leaves(pass, "(let x4 1 (app (app g0 2) x4))");
        leaves(pass, "(let x4 1 (app g0 x4))");
        makes(pass, "(let x4 1 (app (app (app g0 x4) 2) 3))", 1, "(strict x4 1 (app (app (app g0 x4) 2) 3))");
        leaves(pass, "(let x4 1 (app (app (app g0 1) 2) x4))");
        makes(pass, "(let x4 1 (app (app g1 2) x4))", 1, "(strict x4 1 (app (app g1 2) x4))");
        leaves(pass, "(let x4 1 (app (app g2 x4) x4))");
        Words.define(loom, 2, "(lam x3 (lam x3 x3))");
        leaves(pass, "(let x4 1 (app (app g2 x4) 2))");
        makes(pass, "(let x4 1 (app (app g2 2) x4))", 1, "(strict x4 1 (app (app g2 2) x4))");
        fresh("STRICTLY ahead of the pass");
        // of its own expression, too, what is needed ahead of the pass counts
        Words.define(loom, 0, "(lam x0 (let x1 (app g0 x0) (let x2 x0 (+ x2 x1))))");
        Check.due(title, loom.pass(pass, 0), 2);
        Words.due(title, loom, 0, "(lam x0 (strict x1 (app g0 x0) (strict x2 x0 (+ x2 x1))))");
    }

    private static void inline() {
        int pass = LazyLoom.INLINE;
        fresh("INLINE");
        Words.define(loom, 0, "(lam x0 (+ x0 1))");
        makes(pass, "(app g0 5)", 1, "(app (lam x0 (+ x0 1)) 5)");
        makes(pass, "(app (app g0 5) 6)", 1, "(app (app (lam x0 (+ x0 1)) 5) 6)");
        makes(pass, "(+ (app g0 5) (app g0 6))", 2, "(+ (app (lam x0 (+ x0 1)) 5) (app (lam x0 (+ x0 1)) 6))");
        leaves(pass, "g0");
        leaves(pass, "(app x0 g0)");
        leaves(pass, "(con 0 g0)");
        leaves(pass, "(seq g0 1)");
        leaves(pass, "(app g6 1)");
        Words.define(loom, 1, "(let x0 1 (lam x1 x1))");
        leaves(pass, "(app g1 1)");
        Words.define(loom, 1, "(lam x0 (app g2 x0))");
        makes(pass, "(app g1 1)", 1, "(app (lam x0 (app g2 x0)) 1)");
        Words.define(loom, 2, "(lam x0 (app g3 x0))");
        makes(pass, "(app g1 1)", 1, "(app (lam x0 (app g2 x0)) 1)");
        Words.define(loom, 3, "(lam x0 (con 0 x0 g1))");
        leaves(pass, "(app g1 1)");
        leaves(pass, "(app g2 1)");
        Words.define(loom, 4, "(lam x0 (app g1 x0))");
        makes(pass, "(app g4 1)", 1, "(app (lam x0 (app g1 x0)) 1)");
        Words.define(loom, 5, "(lam x0 (app g5 x0))");
        leaves(pass, "(app g5 1)");
        fresh("INLINE");
        Words.define(loom, 0, "(lam x0 (+ x0 (+ 1 (+ 2 (+ 3 (+ 4 5))))))");
        makes(pass, "(app g0 1)", 1, "(app (lam x0 (+ x0 (+ 1 (+ 2 (+ 3 (+ 4 5)))))) 1)");
        Words.define(loom, 0, "(lam x0 (raise (+ x0 (+ 1 (+ 2 (+ 3 (+ 4 5)))))))");
        leaves(pass, "(app g0 1)");
        // what is brought is not gone over by the same pass
        Words.define(loom, 1, "(lam x0 (app g2 x0))");
        Words.define(loom, 2, "(lam x0 x0)");
        makes(pass, "(app g1 1)", 1, "(app (lam x0 (app g2 x0)) 1)");
        // a pass over what calls itself: its expression ahead of the pass counts
        Words.define(loom, 3, "(lam x0 (app g3 x0))");
        Check.due(title + "itself", loom.pass(pass, 3), 0);
        Words.define(loom, 4, "(lam x0 (app g2 x0))");
        Check.due(title + "another", loom.pass(pass, 4), 1);
        Words.due(title + "another", loom, 4, "(lam x0 (app (lam x0 x0) x0))");
    }

    private static void floatIn() {
        int pass = LazyLoom.FLOAT;
        fresh("FLOAT");
        makes(pass, "(let x4 (+ 1 2) (if x0 x4 9))", 1, "(if x0 (let x4 (+ 1 2) x4) 9)");
        makes(pass, "(let x4 (+ 1 2) (if x0 9 x4))", 1, "(if x0 9 (let x4 (+ 1 2) x4))");
        leaves(pass, "(let x4 (+ 1 2) (if x0 x4 x4))");
        leaves(pass, "(let x4 (+ 1 2) (if x0 8 9))");
        leaves(pass, "(let x4 (+ 1 2) (if x4 x4 9))");
        leaves(pass, "(let x4 (+ 1 2) (if (par x4 1) x4 9))");
        makes(pass, "(let x4 (+ x4 2) (if x0 (con 1 x4 x4) 9))", 1, "(if x0 (let x4 (+ x4 2) (con 1 x4 x4)) 9)");
        makes(pass, "(let x4 1 (if x0 (par x4 1) 9))", 1, "(if x0 (let x4 1 (par x4 1)) 9)");
        makes(pass, "(let x4 1 (if (lam x4 x4) x4 (lam x4 x4)))", 1, "(if (lam x4 x4) (let x4 1 x4) (lam x4 x4))");
        leaves(pass, "(let x4 1 (seq 1 (if x0 x4 9)))");
        makes(pass, "(let x4 1 (let x5 2 (if x0 (+ x4 x5) 9)))", 2, "(if x0 (let x4 1 (let x5 2 (+ x4 x5))) 9)");
        fresh("FLOAT");
        makes(pass, "(let x4 1 (let x5 x4 (if x0 x5 x4)))", 1, "(let x4 1 (if x0 (let x5 x4 x5) x4))");
        makes(pass, "(let x4 1 (if x0 (if x1 x4 8) 9))", 1, "(if x0 (let x4 1 (if x1 x4 8)) 9)");
    }

    private static void fuse() {
        int pass = LazyLoom.FUSE;
        fresh("FUSE");
        loom.rule(1, 2, 3);
        loom.rule(1, 2, 4);
        loom.rule(2, 2, 2);
        makes(pass, "(let x4 (app g2 x0) (app g1 x4))", 1, "(app g3 x0)");
        makes(pass, "(let x4 (app g2 7) (app g1 x4))", 1, "(app g3 7)");
        makes(pass, "(let x4 (app g2 g0) (app g1 x4))", 1, "(app g3 g0)");
        leaves(pass, "(let x4 (app g2 x4) (app g1 x4))");
        leaves(pass, "(let x4 (app g1 x0) (app g2 x4))");
        leaves(pass, "(let x4 (app g2 x0) (app g1 x0))");
        leaves(pass, "(let x4 (app g2 x0) (app g1 7))");
        leaves(pass, "(let x4 (app x0 x0) (app g1 x4))");
        leaves(pass, "(let x4 (app g2 x0) (app x1 x4))");
        leaves(pass, "(let x4 (app g2 x0) (app (app g1 x4) x4))");
        leaves(pass, "(let x4 (app (app g2 x0) x0) (app g1 x4))");
        leaves(pass, "(let x4 (app g2 x0) (seq 1 (app g1 x4)))");
        makes(pass, "(let x4 (app g2 0) (app g2 x4))", 1, "(app g2 0)");
        fresh("FUSE");
        loom.rule(5, 6, 7);
        leaves(pass, "(let x4 (app g2 x0) (app g1 x4))");
        makes(pass, "(let x4 (let x5 (app g6 1) (app g5 x5)) (app g0 x4))", 1, "(let x4 (app g7 1) (app g0 x4))");
        loom.rule(0, 7, 1);
        makes(pass, "(let x4 (let x5 (app g6 1) (app g5 x5)) (app g0 x4))", 2, "(app g1 1)");
    }
}
