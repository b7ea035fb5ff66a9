/**
 * Promises 21 to 24 and the section "Finding", a test for each sentence that names a boundary: each says the sentence,
 * and looks at both of its sides.
 */
public final class EdgesOfRunsTest extends Runs {
    private static final int LEAST = Integer.MIN_VALUE, MOST = Integer.MAX_VALUE;

    public static void main(String[] args) {
        emptyObject();
        steps();
        stepsAtCentres();
        letsWithoutSteps();
        foundOnce();
        blackCells();
        asItWasAhead();
        globalsAreKept();
        globalsAreForgotten();
        atomsAreNotFound();
        applying();
        leftToRight();
        dividing();
        wrapping();
        conditions();
        matching();
        nothings();
        notHeld();
        fourSparks();
        noSparks();
        sparksInOrder();
        stepsOfSparks();
        sparksThatFail();
        interrupts();
        interruptsAtTheEnd();
        withoutSharing();
        values();
        manyNumbers();
        lastRun();
        Check.end("EdgesOfRunsTest");
    }

    /** "a GLOBAL that is nothing, when it is found", "0 without a run", "0 otherwise, and without one". */
    private static void emptyObject() {
        loom = new LazyLoom();
        Check.due("promise 23: without a run", loom.value(), 0);
        for (int what = 0; what < 10; what++) {
            Check.due("promise 24: without a run: " + what, loom.count(what), 0);
        }
        for (int many = 0; many <= 2; many++) {
            ends("promise 21: nothing on " + many, loom.run(7, many, 1, 2, 0, false), WRONG, 0);
            counts("nothing on " + many, many + 1, 0, 0);
            ends("promise 22: nothing on " + many, loom.plainly(7, many, 1, 2, false), WRONG, 0);
            counts("nothing without sharing on " + many, many + 1, 0, 0);
        }
        ends("promise 21: ahead of the first step", loom.run(7, 0, 0, 0, 1, false), INTERRUPTED, 0);
        counts("ahead of the first step", 0, 0, 0);
        loom.begin();
        ends("promise 21: nothing of the beginning", loom.run(0, 0, 0, 0, 0, true), WRONG, 0);
        ends("promise 22: nothing of the beginning", loom.plainly(0, 0, 0, 0, true), WRONG, 0);
    }

    /** A global 0 that takes so many steps, of which the last ones find the text. */
    private static void ofSteps(int steps, String last, int lastSteps) {
        StringBuilder all = new StringBuilder("(app g1 5)");
        for (int i = 0; i < 9; i++) {
            all = new StringBuilder("(seq (app g1 5) ").append(all).append(')');
        }
        all = new StringBuilder("(seq ").append(all).append(' ').append(last).append(')');
        // a GLOBAL, 10 SEQs, 10 times an APP, a GLOBAL and 55 steps
        for (int i = 581 + lastSteps; i < steps; i++) {
            all.insert(0, "(centre 1 ").append(')');
        }
        of(all.toString(), "(lam x0 " + seqs(27) + ")");
    }

    /** "To find a node is a step ..; a 601st step is not begun: the run is ENDLESS then." */
    private static void steps() {
        ofSteps(599, "(con 1)", 1);
        ends("promise 21: 599 steps", loom.run(0, 0, 0, 0, 0, false), DATA, 10);
        counts("599 steps", 599, 0, 1);
        ofSteps(600, "(con 1)", 1);
        ends("promise 21: 600 steps", loom.run(0, 0, 0, 0, 0, false), DATA, 10);
        counts("600 steps", 600, 0, 1);
        ends("promise 22: 600 steps", loom.plainly(0, 0, 0, 0, false), DATA, 10);
        counts("600 steps without sharing", 600, 0, 0);
        ofSteps(601, "(con 1)", 1);
        ends("promise 21: 601 steps", loom.run(0, 0, 0, 0, 0, false), ENDLESS, 0);
        counts("601 steps", 600, 0, 0);
        ends("promise 22: 601 steps", loom.plainly(0, 0, 0, 0, false), ENDLESS, 0);
        counts("601 steps without sharing", 600, 0, 0);
        String[] lasts = {"(raise 3)", "(if (con 0) 1 2)", "(let x0 x0 x0)", "g5", "(let x0 7 x0)"};
        int[] lastSteps = {2, 2, 3, 1, 2};
        int[] hows = {RAISED, WRONG, LOOP, WRONG, NUMBER};
        for (int i = 0; i < lasts.length; i++) {
            ofSteps(600, lasts[i], lastSteps[i]);
            Check.due("promise 21: the 600th step of " + lasts[i], loom.run(0, 0, 0, 0, 0, false), hows[i]);
            Check.due("promise 24: 600 steps", loom.count(0), 600);
            ofSteps(601, lasts[i], lastSteps[i]);
            Check.due("promise 21: the 601st step of " + lasts[i], loom.run(0, 0, 0, 0, 0, false), ENDLESS);
            Check.due("promise 24: 601 steps", loom.count(0), 600);
            Check.due("promise 23: ENDLESS", loom.value(), 0);
        }
    }

    /** "It begins at the centre 0; each step is counted to the centre of then." CENTRE c, 0 to 3. */
    private static void stepsAtCentres() {
        run(NUMBER, 1, "1");
        centreCounts("no CENTRE", 1, 0, 0, 0);
        run(NUMBER, 1, "(centre 0 1)");
        centreCounts("0", 3, 0, 0, 0);
        run(NUMBER, 1, "(centre 3 1)");
        centreCounts("3: the CENTRE itself is at 0", 2, 0, 0, 1);
        run(NUMBER, 1, "(centre 3 (centre 0 1))");
        centreCounts("back to 0", 2 + 1, 0, 0, 1);
        of("(lam x0 (centre 1 x0))");
        loom.run(0, 2, 4, 5, 0, false);
        centreCounts("the APPs of the run", 4, 1, 0, 0);
        // a VAR of a cell that was found is a step at the centre of then, and so is the VAR of one that was not
        run(NUMBER, 6, "(centre 1 (let x0 (+ 1 2) (centre 2 (+ x0 x0))))");
        centreCounts("the VARs of a cell", 2, 2 + 3, 3, 0);
        run(NUMBER, 3, "(centre 1 (let x0 3 (centre 2 x0)))");
        centreCounts("the VAR of a value", 2, 2, 1, 0);
        run(NUMBER, 3, "(centre 1 g1)", "(centre 3 (+ 1 2))");
        centreCounts("e of a GLOBAL is at 0", 3, 1, 0, 3);
        // a CATCH is behind the raising what it was ahead of it
        run(NUMBER, 3, "(centre 2 (catch (centre 1 (+ 1 (centre 3 (raise 2)))) x0 (+ x0 1)))");
        centreCounts("b of a CATCH", 2, 3, 5, 2);
    }

    /** "LET makes a cell for x ..: if e is NUM, LAM or CON, that is its value at once, without a step". */
    private static void letsWithoutSteps() {
        for (String e : new String[] {"4", "(lam x1 x1)", "(con 2 x0 x0)"}) {
            run(NUMBER, 1, "(let x0 " + e + " (seq x0 1))");
            counts("at once: " + e, 5, 1, 1);
            plain(NUMBER, 1, "(let x0 " + e + " (seq x0 1))");
            counts("at once without sharing: " + e, 5, 1, 0);
            run(NUMBER, 1, "(let x0 " + e + " 1)");
            counts("not looked at: " + e, 3, 1, 1);
        }
        String[] others = {"g1", "(app g1 1)", "(seq 1 2)", "(centre 1 2)", "(raise 1)", "(let x1 1 1)", "x0",
            "(catch 1 x1 1)", "(par x0 1)", "(if 1 1 1)", "(match (con 0) 0 x1 x2 1 1)", "(+ 1 1)"};
        for (String e : others) {
            run(NUMBER, 7, "(let x0 " + e + " 7)", "(raise 5)");
            counts("not found yet: " + e, 3, 1, 1);
            sparkCounts("not found yet: " + e, 0, 0, 0);
        }
        run(NUMBER, 5, "(let x0 g1 (seq x0 (seq x0 x0)))", "5");
        counts("a GLOBAL is not a value at once for a LET", 8, 1, 2);
    }

    /** "VAR, whose cell was found, gives its value; otherwise .. the cell has that value: an update." */
    private static void foundOnce() {
        run(NUMBER, 3, "(let x0 (+ 1 2) x0)");
        counts("found at first", 6, 1, 2);
        run(NUMBER, 3, "(let x0 (+ 1 2) (seq x0 x0))");
        counts("then no more", 8, 1, 2);
        run(NUMBER, 3, "(let x0 (+ 1 2) (let x1 x0 (seq x1 (seq x0 x1))))");
        counts("each cell once", 12, 2, 3);
        run(FUNCTION, 0, "(let x0 (seq 1 (lam x1 x0)) (seq x0 (app x0 1)))");
        counts("a function, which gives itself", 10, 1, 2);
        run(DATA, 20, "(let x0 (seq 1 (con 2)) (seq x0 x0))");
        counts("data", 8, 1, 2);
    }

    /** "If it is black already, the run ends in a LOOP." */
    private static void blackCells() {
        run(LOOP, 0, "(let x0 x0 x0)");
        counts("a VAR of itself", 4, 1, 0);
        run(LOOP, 0, "(let x0 (+ 1 x0) x0)");
        run(LOOP, 0, "(let x0 (let x1 x0 x1) x0)");
        run(LOOP, 0, "(let x0 (match (con 0 x0) 0 x1 x2 x1 0) x0)");
        run(LOOP, 0, "(let x0 (app (lam x1 x1) x0) x0)");
        run(LOOP, 0, "g0");
        run(LOOP, 0, "g1", "(+ g2 1)", "(seq 1 g0)");
        run(LOOP, 0, "(app (lam x0 x0) g0)");
        // a black cell that is an atom is not looked at
        run(NUMBER, 5, "(let x0 (app (lam x1 5) x0) x0)");
        run(DATA, 12, "(let x0 (seq 1 (con 1 x0 x0)) x0)");
        run(NUMBER, 3, "(seq 1 (app (lam x0 3) g0))");
        // nor are those black that hold values, which were found at once
        run(FUNCTION, 0, "(let x0 (lam x1 x0) (app x0 1))");
        run(NUMBER, 1, "(let x0 (con 3 x0) (match x0 3 x1 x2 (match x1 3 x3 x4 1 2) 3))");
        of("(lam x0 (if x0 (app g0 0) 8))");
        ends("promise 21: a GLOBAL that is a LAM is never black", loom.run(0, 1, 1, 0, 0, false), NUMBER, 8);
    }

    /** "If finding it raises, or the run ends, the cell is as it was ahead, not found yet." */
    private static void asItWasAhead() {
        run(NUMBER, 2, "(let x0 (raise 1) (+ (catch x0 x1 x1) (catch x0 x1 x1)))");
        counts("it raises twice", 13, 1, 1);
        run(NUMBER, 2, "(let x0 (+ 1 (raise 1)) (let x2 (+ x0 1) (+ (catch x2 x1 x1) (catch x0 x1 x1))))");
        counts("all cells on the way", 20, 2, 1);
        run(RAISED, 4, "(+ 1 g1)", "(raise 4)");
        loom.run(1, 0, 0, 0, 0, false);
        counts("a GLOBAL that raises", 3, 0, 0);
        Check.due("promise 21: it raises again", loom.run(0, 0, 0, 0, 0, false), RAISED);
        // (each of these has a cell of data that stays, and one in it that is begun and left)
        String[] lefts = {"(app g4 1)", "(+ x0 1)", "(app 1 2)"};
        int[] hows = {ENDLESS, LOOP, WRONG};
        for (int i = 0; i < lefts.length; i++) {
            of("(let x0 (if g3 (+ 2 3) " + lefts[i] + ") (seq 1 (con 1 x0)))", "(match g0 1 x0 x1 x0 0)",
                "(lam x0 x0)", "0", "(lam x0 (app g4 x0))");
            for (int turn = 0; turn < 3; turn++) {
                ends("promise 21: left " + turn, loom.run(1, 0, 0, 0, 0, false), hows[i], 0);
                Check.due("promise 24: the data stays", loom.count(1), turn == 0 ? 1 : 0);
            }
        }
        of("(let x0 (+ 2 3) (seq 1 (con 1 x0)))", "(match g0 1 x0 x1 (+ x0 x0) 0)");
        loom.run(0, 0, 0, 0, 0, false);
        for (int ahead = 4; ahead <= 9; ahead++) {
            ends("promise 21: ahead of " + ahead, loom.run(1, 0, 0, 0, ahead, false), INTERRUPTED, 0);
            Check.due("promise 24: updates ahead of " + ahead, loom.count(2), ahead == 9 ? 1 : 0);
        }
        ends("promise 21: not interrupted", loom.run(1, 0, 0, 0, 0, false), NUMBER, 10);
        counts("x0 is found by then", 6, 0, 1);
    }

    /** "GLOBAL has a cell of its own likewise, also where it is an atom, which is kept from run to run of a program". */
    private static void globalsAreKept() {
        of("(+ 1 2)", "(app (lam x0 (+ x0 x0)) g0)", "(match (con 0 g0) 0 x0 x1 x0 0)", "g0", "7", "(lam x0 x0)",
            "(con 1 g0 g0)");
        ends("promise 21: as an atom", loom.run(1, 0, 0, 0, 0, false), NUMBER, 6);
        counts("found once", 9, 0, 2);
        ends("promise 21: as a field", loom.run(2, 0, 0, 0, 0, false), NUMBER, 3);
        counts("found in an earlier run", 4, 0, 1);
        ends("promise 21: as it is", loom.run(3, 0, 0, 0, 0, false), NUMBER, 3);
        counts("its own update", 2, 0, 1);
        ends("promise 21: once more", loom.run(3, 0, 0, 0, 0, false), NUMBER, 3);
        counts("no update then", 1, 0, 0);
        for (int g = 4; g <= 6; g++) {
            for (int turn = 0; turn < 2; turn++) {
                loom.run(g, 0, 0, 0, 0, false);
                counts("a value at once: g" + g, 1, 0, 0);
            }
        }
        ends("promise 22: what GLOBALs had from other runs does not count", loom.plainly(3, 0, 0, 0, false), NUMBER, 3);
        counts("without sharing", 5, 0, 0);
    }

    /** "till any of its globals gets an expression by define(), .., or a pass() of it tells more than 0". */
    private static void globalsAreForgotten() {
        of("(+ 1 2)", "(+ 4 (+ 5 6))");
        loom.begin();
        int same = Words.of("(+ 1 2)").tell(loom);
        int free = loom.var(1);
        loom.run(0, 0, 0, 0, 0, true);
        for (int turn = 0; turn < 8; turn++) {
            loom.run(0, 0, 0, 0, 0, false);
            counts("found", 4, 0, 1);
            loom.run(0, 0, 0, 0, 0, false);
            counts("kept", 1, 0, 0);
            switch (turn) {
                case 0: loom.define(0, same); break;
                case 1: loom.define(7, same); break;
                case 2: loom.define(7, loom.num(1)); break;
                case 3: Check.due("promise 20: a pass", loom.pass(LazyLoom.FOLD, 1), 2); break;
                default:
                    Check.due("promise 20: a pass that tells 0", loom.pass(LazyLoom.BETA, 0), 0);
                    Check.thrown("promise 20: a pass that throws", Check.STATE, () -> loom.pass(LazyLoom.FOLD, 4));
                    Check.thrown("promise 17: a define() that throws", Check.STATE, () -> loom.define(1, free));
                    loom.rule(0, 1, 2);
                    loom.run(0, 0, 0, 0, 0, false);
                    counts("kept all the same", 1, 0, 0);
                    loom.define(3, same);
                    break;
            }
            loom.run(0, 0, 0, 0, 0, true);
            counts("that of the beginning is kept", 1, 0, 0);
        }
        // what a run without sharing, or one that is interrupted, has found, is not kept
        of("(+ 1 2)");
        loom.plainly(0, 0, 0, 0, false);
        loom.run(0, 0, 0, 0, 4, false);
        loom.run(0, 0, 0, 0, 0, false);
        counts("found at last", 4, 0, 1);
    }

    /** "the fields of CON, and the atoms of APP, are the cells of VARs .., and GLOBALs, as they are". */
    private static void atomsAreNotFound() {
        run(NUMBER, 5, "(let x0 (raise 1) (app (lam x1 5) x0))");
        counts("a cell", 5, 1, 1);
        run(NUMBER, 5, "(app (lam x1 5) g1)", "(raise 1)");
        counts("a GLOBAL", 4, 0, 1);
        run(NUMBER, 5, "(app (lam x1 5) g7)");
        run(DATA, 32, "(let x0 (raise 1) (con 3 x0 g7))");
        run(NUMBER, 6, "(let x0 (con 3 6 x0) (match x0 3 x1 x2 (match x2 3 x3 x4 x3 1) 2))");
        run(RAISED, 1, "(let x0 (raise 1) (match (con 0 x0) 0 x1 x2 x1 5))");
        run(WRONG, 0, "(match (con 0 g7) 0 x1 x2 x1 5)");
    }

    /** "APP finds f, which must be a function, then looks at a, then finds its b, with x as the cell or number of a." */
    private static void applying() {
        both(WRONG, 0, "(app 5 5)");
        both(WRONG, 0, "(app (con 0) 5)");
        both(WRONG, 0, "(app (app (lam x0 x0) 1) 5)");
        String absent = "(match (con 0) 0 x0 x1 %s 9)";
        run(WRONG, 0, String.format(absent, "(app (seq 1 (lam x2 5)) x0)"));
        counts("f first, then a", 7, 0, 0);
        both(RAISED, 3, String.format(absent, "(app (raise 3) x0)"));
        run(LOOP, 0, "(let x2 x2 " + String.format(absent, "(app x2 x0)") + ")");
    }

    /** "IF and PRIM find their parts from left to right, .. those of PRIM each as it is found", SEQ, STRICT, MATCH. */
    private static void leftToRight() {
        for (String o : new String[] {"+", "-", "*", "<", "/"}) {
            both(RAISED, 1, "(" + o + " (raise 1) (raise 2))");
            both(RAISED, 2, "(" + o + " 5 (raise 2))");
            both(WRONG, 0, "(" + o + " (con 0) (raise 2))");
            both(WRONG, 0, "(" + o + " (lam x0 x0) (raise 2))");
            both(WRONG, 0, "(" + o + " 5 (con 0))");
            both(WRONG, 0, "(" + o + " 5 (lam x0 x0))");
        }
        both(RAISED, 1, "(seq (raise 1) (raise 2))");
        both(RAISED, 2, "(seq (lam x0 x0) (raise 2))");
        both(RAISED, 2, "(seq (con 0) (raise 2))");
        both(RAISED, 1, "(if (raise 1) (raise 2) (raise 3))");
        both(RAISED, 1, "(match (raise 1) 0 x0 x1 (raise 2) (raise 3))");
        both(RAISED, 1, "(raise (raise 1))");
        of("(let x0 (raise 1) (seq (raise 2) x0))", "(let x0 (raise 1) (raise 2))");
        for (int g = 0; g < 2; g++) {
            ends("promise 21: LET finds b", loom.run(g, 0, 0, 0, 0, false), RAISED, 2);
            Check.due("promise 20: it is strict", loom.pass(LazyLoom.STRICTLY, g), 1);
            ends("promise 21: STRICT finds e, then b", loom.run(g, 0, 0, 0, 0, false), RAISED, 1);
            ends("promise 22: STRICT finds e, then b", loom.plainly(g, 0, 0, 0, false), RAISED, 1);
            counts("STRICT has no cell", 4, 0, 0);
        }
    }

    /** "Dividing by 0 raises 0"; "4 divides, towards 0". */
    private static void dividing() {
        both(RAISED, 0, "(/ 5 0)");
        both(RAISED, 0, "(/ 0 0)");
        both(RAISED, 0, "(/ -2147483648 0)");
        both(RAISED, 3, "(/ (raise 3) 0)");
        both(WRONG, 0, "(/ (con 0) 0)");
        both(NUMBER, 0, "(catch (/ 5 0) x0 x0)");
        both(NUMBER, 0, "(/ 0 5)");
        both(NUMBER, 0, "(/ 4 5)");
        both(NUMBER, 0, "(/ -4 5)");
        both(NUMBER, -1, "(/ -9 5)");
        both(NUMBER, -1, "(/ 9 -5)");
        both(NUMBER, 1, "(/ -9 -5)");
        both(NUMBER, 1, "(/ -2147483648 -2147483648)");
        both(NUMBER, 0, "(/ 2147483647 -2147483648)");
        both(NUMBER, -1, "(/ -2147483648 2147483647)");
    }

    /** Numbers wrap around. */
    private static void wrapping() {
        of("(lam x0 (lam x1 (+ x0 x1)))", "(lam x0 (lam x1 (- x0 x1)))", "(lam x0 (lam x1 (* x0 x1)))",
            "(lam x0 (lam x1 (< x0 x1)))", "(lam x0 (lam x1 (/ x0 x1)))");
        int[] some = {LEAST, LEAST + 1, -65536, -1, 0, 1, 2, 65536, MOST - 1, MOST};
        for (int a : some) {
            for (int b : some) {
                int[] due = {a + b, a - b, a * b, a < b ? 1 : 0, b == 0 ? 0 : (int) ((long) a / b)};
                for (int o = 0; o < 5; o++) {
                    int how = o == 4 && b == 0 ? RAISED : NUMBER;
                    ends("promise 21: " + o + " of " + a + ", " + b, loom.run(o, 2, a, b, 0, false), how, due[o]);
                    ends("promise 22: " + o + " of " + a + ", " + b, loom.plainly(o, 2, a, b, false), how, due[o]);
                }
            }
        }
    }

    /** "IF e b c: b if e is not 0, otherwise c." */
    private static void conditions() {
        of("(lam x0 (if x0 5 6))");
        for (int e : new int[] {LEAST, -1, 0, 1, MOST}) {
            ends("promise 21: IF " + e, loom.run(0, 1, e, 0, 0, false), NUMBER, e == 0 ? 6 : 5);
        }
        both(NUMBER, 5, "(if 1 5 (raise 1))");
        both(NUMBER, 6, "(if 0 (raise 1) 6)");
        both(WRONG, 0, "(if (con 0) 5 6)");
        both(WRONG, 0, "(if (lam x0 x0) 5 6)");
    }

    /** "MATCH .., in which x and y are its fields, those that it has (one that is not there hides its name ..; y ..)". */
    private static void matching() {
        for (int tag = 0; tag < 4; tag++) {
            for (int other = 0; other < 4; other++) {
                both(NUMBER, tag == other ? 5 : 6, "(match (con " + tag + ") " + other + " x0 x1 5 6)");
            }
        }
        // x0 is 7 around it, x1 is 8
        String around = "(app (app (lam x0 (lam x1 (match (con 0%s) %d %s %s (+ x0 x1) (- x0 x1)))) 7) 8)";
        both(NUMBER, 3, String.format(around, " 1 2", 0, "x0", "x1"));
        both(NUMBER, 9, String.format(around, " 1 2", 0, "x2", "x0") .replace("(+ x0 x1)", "(+ x0 (- x1 1))"));
        both(NUMBER, 10, String.format(around, " 1 2", 0, "x0", "x0"));
        both(NUMBER, 10, String.format(around, " 1 2", 0, "x5", "x0"));
        both(NUMBER, 9, String.format(around, " 1", 0, "x0", "x2"));
        both(WRONG, 0, String.format(around, " 1", 0, "x0", "x1"));
        both(WRONG, 0, String.format(around, " 1", 0, "x0", "x0"));
        both(WRONG, 0, String.format(around, "", 0, "x2", "x0"));
        both(WRONG, 0, String.format(around, "", 0, "x1", "x2"));
        both(NUMBER, 15, String.format(around, "", 0, "x2", "x3"));
        both(NUMBER, -1, String.format(around, "", 1, "x0", "x1"));
        both(NUMBER, -1, String.format(around, " 1 2", 3, "x0", "x1"));
        both(WRONG, 0, "(match 0 0 x0 x1 5 6)");
        both(WRONG, 0, "(match (lam x0 x0) 0 x0 x1 5 6)");
    }

    /** "a VAR to which nothing belongs (..), also as an atom and of a PAR, ends the run WRONG". */
    private static void nothings() {
        String one = "(match (con 0 5) 0 x0 x1 %s 9)";
        for (String b : new String[] {"x1", "(app (lam x2 5) x1)", "(con 0 x1)", "(con 0 1 x1)", "(let x2 (con 0 x1) 5)",
            "(let x2 (con 0 1 x1) 5)", "(par x1 5)", "(seq x1 5)", "(catch x1 x2 5)", "(catch (par x1 5) x2 5)",
            "(catch (con 0 x1) x2 5)", "(let x2 x1 x2)"}) {
            both(WRONG, 0, String.format(one, b));
        }
        for (String b : new String[] {"x0", "(app (lam x2 5) x0)", "(let x2 (con 0 x0) 5)", "(par x0 5)", "(let x2 x1 5)",
            "(let x2 (lam x3 x1) 5)", "(seq (lam x3 x1) 5)", "(let x1 5 x1)", "(app (lam x1 x1) 5)",
            "(catch (raise 5) x1 x1)", "(match (con 0 1 5) 0 x0 x1 x1 9)", "(let x1 4 (par x1 5))",
            "(let x2 (+ x1 1) (par x2 5))"}) {
            both(NUMBER, 5, String.format(one, b));
        }
        run(WRONG, 0, String.format(one, "(let x2 (con 0 x1) 5)"));
        counts("at once, with its cell", 4, 1, 0);
        // what raises ahead of it is held, since the run is not WRONG yet
        both(NUMBER, 1, String.format(one, "(catch (seq (raise 1) x1) x2 x2)"));
    }

    /** "A LOOP, WRONG and ENDLESS are not held by CATCH"; "INTERRUPTED, which CATCH does not hold". */
    private static void notHeld() {
        run(LOOP, 0, "(catch (let x0 x0 x0) x1 5)");
        both(WRONG, 0, "(catch (app 1 2) x1 5)");
        both(WRONG, 0, "(catch g7 x1 5)");
        both(ENDLESS, 0, "(catch (app g1 1) x1 5)", "(lam x0 (app g1 x0))");
        both(NUMBER, 4, "(catch (raise 4) x1 x1)");
        both(NUMBER, 0, "(catch (/ 4 0) x1 x1)");
        of("(catch (seq 1 2) x1 5)");
        for (int n = 1; n <= 5; n++) {
            ends("promise 21: not held", loom.run(0, 0, 0, 0, n, false), INTERRUPTED, 0);
        }
    }

    private static String sparksOf(int many, String b) {
        StringBuilder all = new StringBuilder();
        for (int i = 0; i < many; i++) {
            all.append("(let x").append(i).append(" (+ ").append(i).append(" 1) ");
        }
        for (int i = 0; i < many; i++) {
            all.append("(par x").append(i).append(' ');
        }
        all.append(b);
        for (int i = 0; i < 2 * many; i++) {
            all.append(')');
        }
        return all.toString();
    }

    /** "PAR puts the cell of x behind the sparks, if there are fewer than 4". */
    private static void fourSparks() {
        for (int many = 1; many <= 8; many++) {
            run(NUMBER, 7, sparksOf(many, "7"));
            int put = Math.min(4, many);
            sparkCounts(many + " PARs", 3 * put, 0, put);
            counts(many + " PARs", 2 + 2 * many, many, 1 + put);
        }
        // the fifth one is not put, though those ahead of it have fizzled by then
        run(NUMBER, 7, sparksOf(5, "(seq x0 (seq x1 (seq x2 (seq x3 7))))"));
        sparkCounts("four fizzle", 0, 4, 0);
        run(NUMBER, 5, sparksOf(5, "x4"));
        sparkCounts("the fifth one is found by the run", 12, 0, 4);
        // none are left from the run before
        loom.run(0, 0, 0, 0, 0, false);
        sparkCounts("a run behind", 0, 0, 0);
    }

    /** "unless x is a number, that of a CATCH, or of a STRICT (these have no cells)". */
    private static void noSparks() {
        String many = "(par x0 (par x0 (par x0 (par x0 (par x1 7)))))";
        run(NUMBER, 7, "(let x1 (+ 1 2) (app (lam x0 " + many + ") 5))");
        sparkCounts("a number takes no place", 3, 0, 1);
        run(NUMBER, 7, "(let x1 (+ 1 2) (match (con 0 5) 0 x0 x2 " + many + " 9))");
        sparkCounts("a number that is a field", 3, 0, 1);
        run(NUMBER, 7, "(let x1 (+ 1 2) (catch (raise 5) x0 " + many + "))");
        sparkCounts("that of a CATCH", 3, 0, 1);
        of("(let x1 (+ 1 2) (let x0 (+ 3 4) (if x0 " + many + " x0)))");
        Check.due("promise 20: it is strict", loom.pass(LazyLoom.STRICTLY, 0), 1);
        ends("promise 21: that of a STRICT", loom.run(0, 0, 0, 0, 0, false), NUMBER, 7);
        sparkCounts("that of a STRICT", 3, 0, 1);
        of("(let x1 (+ 1 2) (let x0 (lam x2 x2) (seq x0 (app (lam x3 (match (con 0 x3) 0 x0 x4 " + many + " 0)) x0))))");
        Check.due("promise 20: it is strict", loom.pass(LazyLoom.STRICTLY, 0), 1);
        ends("promise 21: a STRICT as a field", loom.run(0, 0, 0, 0, 0, false), NUMBER, 7);
        sparkCounts("a STRICT as a field", 3, 0, 1);
        // what has a cell takes its place, also where that was found
        run(NUMBER, 7, "(let x1 (+ 1 2) (let x0 5 " + many + "))");
        sparkCounts("a LET of a number has a cell", 0, 4, 0);
        run(NUMBER, 7, "(let x1 (+ 1 2) (app (lam x0 " + many + ") g1))", "5");
        sparkCounts("a GLOBAL has a cell", 0, 4, 0);
    }

    /** "the sparks are looked at in their order: one whose cell was found has FIZZLED; others are found". */
    private static void sparksInOrder() {
        String lets = "(let x0 (+ 1 2) (let x1 (+ x0 4) (let x2 (+ x1 5) %s)))";
        run(NUMBER, 7, String.format(lets, "(par x0 (par x1 (par x2 7)))"));
        sparkCounts("each finds its own", 9, 0, 3);
        run(NUMBER, 7, String.format(lets, "(par x2 (par x1 (par x0 7)))"));
        sparkCounts("the first one finds all", 9, 2, 1);
        run(NUMBER, 7, String.format(lets, "(par x1 (par x2 (par x0 (par x1 7))))"));
        sparkCounts("the last two fizzle", 9, 2, 2);
        run(NUMBER, 3, String.format(lets, "(par x0 (par x1 x0))"));
        sparkCounts("found by the run", 3, 1, 1);
        // "When a run has a value"
        run(FUNCTION, 0, String.format(lets, "(par x0 (lam x3 x0))"));
        sparkCounts("a function", 3, 0, 1);
        run(DATA, 1, String.format(lets, "(par x0 (con 0 x0))"));
        sparkCounts("data", 3, 0, 1);
        run(RAISED, 1, String.format(lets, "(par x0 (raise 1))"));
        sparkCounts("RAISED", 0, 0, 0);
        run(LOOP, 0, String.format(lets, "(par x0 (let x3 x3 x3))"));
        sparkCounts("LOOP", 0, 0, 0);
        run(WRONG, 0, String.format(lets, "(par x0 (app 1 1))"));
        sparkCounts("WRONG", 0, 0, 0);
        run(ENDLESS, 0, String.format(lets, "(par x0 (app g1 1))"), "(lam x0 (app g1 x0))");
        sparkCounts("ENDLESS", 0, 0, 0);
        of(String.format(lets, "(par x0 7)"));
        ends("promise 21: ahead of the last step", loom.run(0, 0, 0, 0, 6, false), INTERRUPTED, 0);
        sparkCounts("INTERRUPTED", 0, 0, 0);
    }

    /** "with at most 200 steps each, which count apart"; "A spark that is not found yet is no step itself". */
    private static void stepsOfSparks() {
        run(NUMBER, 7, "(let x0 g1 (par x0 7))", "5");
        sparkCounts("a GLOBAL is its first step", 1, 0, 1);
        counts("a GLOBAL is its first step", 4, 1, 2);
        StringBuilder ten = new StringBuilder("(app g1 5)");
        for (int i = 0; i < 9; i++) {
            ten = new StringBuilder("(seq (app g1 5) ").append(ten).append(')');
        }
        // 9 SEQs, 10 times an APP, a GLOBAL and 17 steps
        for (int more = 0; more <= 3; more++) {
            StringBuilder e = new StringBuilder(ten);
            for (int i = 0; i < more; i++) {
                e.insert(0, "(centre 1 ").append(')');
            }
            run(NUMBER, 7, "(let x0 " + e + " (par x0 7))", "(lam x0 " + seqs(8) + ")");
            sparkCounts(199 + more + " steps", Math.min(200, 199 + more), 0, 1);
            counts(199 + more + " steps: an update where it ends", 4, 1, more <= 1 ? 2 : 1);
            centreCounts(199 + more + " steps count apart", 4, 0, 0, 0);
        }
        // four with 200 steps each, behind a run of 600
        of("(let x0 (app g1 1) (let x1 (app g1 1) (let x2 (app g1 1) (let x3 (app g1 1) (par x0 (par x1 (par x2 (par x3 "
            + "(app g2 5)))))))))", "(lam x0 (app g1 x0))", "(lam x0 " + twentyCalls().replace("g1", "g3") + ")",
            "(lam x0 " + seqs(12) + ")");
        ends("promise 21: a long run", loom.run(0, 0, 0, 0, 0, false), NUMBER, 1);
        sparkCounts("800 steps of sparks", 800, 0, 4);
        Check.due("promise 24: its own steps", loom.count(0), 1 + 8 + 2 + 19 + 20 * 27);
    }

    /** "no matter how they end; they make cells and updates that count, and their own sparks do not matter". */
    private static void sparksThatFail() {
        String[] es = {"(raise 1)", "(app 1 2)", "x0", "g7", "(app g1 1)", "(match (con 0) 0 x1 x2 x1 3)"};
        int[] steps = {2, 2, 1, 1, 200, 3};
        for (int i = 0; i < es.length; i++) {
            run(NUMBER, 7, "(let x0 " + es[i] + " (par x0 (par x0 7)))", "(lam x0 (app g1 x0))");
            // the cell is as it was ahead, so it is looked for once more
            sparkCounts("fails: " + es[i], 2 * steps[i], 0, 2);
            counts("fails: " + es[i], 5, 1, 1);
        }
        run(NUMBER, 7, "(let x0 (let x1 (+ 1 2) (seq x1 (raise 5))) (let x2 (+ 1 2) (par x0 (par x2 7))))");
        sparkCounts("one that fails, and one that does not", 11, 0, 2);
        counts("cells and updates of the one that fails", 6, 3, 3);
        run(NUMBER, 7, "(let x0 (let x1 (+ 1 2) (par x1 (con 0 x1))) (par x0 7))");
        sparkCounts("its own sparks", 3, 0, 1);
        counts("its own sparks", 4, 2, 2);
        run(NUMBER, 7, "(let x0 (match (con 0) 0 x1 x2 (par x1 3) 4) (par x0 7))");
        sparkCounts("its own PAR of nothing", 3, 0, 1);
        counts("its own PAR of nothing", 4, 1, 1);
        // a GLOBAL's cell, and what it leads to, keeps what a spark has found
        of("(app (lam x0 (par x0 7)) g1)", "(let x0 (+ 1 2) (seq x0 (con 1 x0)))", "(match g1 1 x0 x1 x0 9)");
        ends("promise 21: a spark of a GLOBAL", loom.run(0, 0, 0, 0, 0, false), NUMBER, 7);
        counts("a spark of a GLOBAL", 5, 1, 3);
        ends("promise 21: it is kept", loom.run(2, 0, 0, 0, 0, false), NUMBER, 3);
        counts("it is kept", 4, 0, 1);
    }

    /** "interrupt: 1 to 600: ahead of which step it is interrupted; 0 for none". */
    private static void interrupts() {
        of("(seq (con 0) (seq 2 3))");
        for (int n = 1; n <= 7; n++) {
            ends("promise 21: ahead of " + n, loom.run(0, 0, 0, 0, n, false), n <= 6 ? INTERRUPTED : NUMBER,
                n <= 6 ? 0 : 3);
            counts("ahead of " + n, Math.min(6, n - 1), 0, n <= 6 ? 0 : 1);
            centreCounts("ahead of " + n, Math.min(6, n - 1), 0, 0, 0);
            Words.define(loom, 1, "1");
        }
        ends("promise 21: 0 is none", loom.run(0, 0, 0, 0, 0, false), NUMBER, 3);
        // the last step finds nothing, or raises, or is WRONG: one that is interrupted does not
        of("(seq 1 (raise 2))", "(seq 1 g7)", "(seq 1 (app 1 2))", "(seq 1 (let x0 x0 x0))");
        int[] hows = {RAISED, WRONG, WRONG, LOOP};
        for (int g = 0; g < 4; g++) {
            loom.run(g, 0, 0, 0, 0, false);
            int steps = loom.count(0);
            Check.due("promise 21: ahead of the last step", loom.run(g, 0, 0, 0, steps, false), INTERRUPTED);
            Check.due("promise 24: one step less", loom.count(0), steps - 1);
            Check.due("promise 21: behind the last step", loom.run(g, 0, 0, 0, steps + 1, false), hows[g]);
        }
        // what many brings is interrupted likewise
        of("(lam x0 (lam x1 x1))");
        for (int n = 1; n <= 6; n++) {
            Check.due("promise 21: on two, ahead of " + n, loom.run(0, 2, 1, 2, n, false), n <= 5 ? INTERRUPTED : NUMBER);
        }
    }

    /** The 600th step can be interrupted, and a run that is ENDLESS, too; sparks are not. */
    private static void interruptsAtTheEnd() {
        of("(app g1 5)", "(lam x0 (app g1 x0))");
        ends("promise 21: ahead of 599", loom.run(0, 0, 0, 0, 599, false), INTERRUPTED, 0);
        counts("ahead of 599", 598, 0, 0);
        ends("promise 21: ahead of 600", loom.run(0, 0, 0, 0, 600, false), INTERRUPTED, 0);
        counts("ahead of 600", 599, 0, 0);
        ends("promise 21: none", loom.run(0, 0, 0, 0, 0, false), ENDLESS, 0);
        counts("none", 600, 0, 0);
        of("(let x0 (app g1 1) (par x0 7))", "(lam x0 (app g1 x0))");
        ends("promise 21: a spark", loom.run(0, 0, 0, 0, 5, false), NUMBER, 7);
        sparkCounts("a spark", 200, 0, 1);
    }

    /** "cells are never black, .. nothing is updated, what GLOBALs had .. does not count, and sparks do not matter". */
    private static void withoutSharing() {
        run(LOOP, 0, "(let x0 x0 x0)");
        plain(ENDLESS, 0, "(let x0 x0 x0)");
        counts("a LOOP without sharing", 600, 1, 0);
        plain(ENDLESS, 0, "g0");
        counts("a GLOBAL of itself", 600, 0, 0);
        plain(NUMBER, 6, "(let x0 (+ 1 2) (+ x0 x0))");
        counts("found twice", 11, 1, 0);
        plain(NUMBER, 6, "(let x0 (let x1 (+ 1 2) x1) (+ x0 x0))");
        counts("its cells are made twice", 15, 3, 0);
        plain(NUMBER, 4, "(let x0 (+ 1 2) (par x0 (par x0 (+ x0 1))))");
        sparkCounts("sparks", 0, 0, 0);
        of("(let x0 (+ 1 2) (seq x0 (con 0 x0)))", "(match g0 0 x0 x1 x0 9)");
        loom.run(1, 0, 0, 0, 0, false);
        ends("promise 22: behind a run", loom.plainly(1, 0, 0, 0, false), NUMBER, 3);
        counts("what it had does not count", 14, 1, 0);
        ends("promise 21: behind one without sharing", loom.run(1, 0, 0, 0, 0, false), NUMBER, 3);
        counts("what it had stays", 1, 0, 0);
    }

    /** "the number, or that which was raised, or 10 times the tag and how many fields there are, ..; 0 otherwise". */
    private static void values() {
        of("(lam x0 x0)", "(lam x0 (raise x0))");
        for (int number : new int[] {LEAST, -1, 0, 1, MOST}) {
            ends("promise 23: a number", loom.run(0, 1, number, 0, 0, false), NUMBER, number);
            ends("promise 23: that was raised", loom.run(1, 1, number, 0, 0, false), RAISED, number);
            ends("promise 23: a number", loom.plainly(0, 1, number, 0, false), NUMBER, number);
            ends("promise 23: that was raised", loom.plainly(1, 1, number, 0, false), RAISED, number);
        }
        String[] fields = {"", " 5", " 5 6"};
        for (int tag = 0; tag < 4; tag++) {
            for (int many = 0; many <= 2; many++) {
                both(DATA, 10 * tag + many, "(con " + tag + fields[many] + ")");
                both(DATA, 10 * tag + many, "(let x0 (con " + tag + fields[many] + ") x0)");
                both(DATA, 10 * tag + many, "g1", "(con " + tag + fields[many] + ")");
                both(DATA, 10 * tag + many, "(let x0 (seq 1 (con " + tag + fields[many] + ")) (seq x0 x0))");
            }
        }
        int[] none = {FUNCTION, LOOP, WRONG, ENDLESS, INTERRUPTED};
        String[] texts = {"(lam x1 x1)", "(let x1 x1 x1)", "(app 1 2)", "(app g1 1)", "2"};
        for (int i = 0; i < none.length; i++) {
            of("(lam x0 " + texts[i] + ")", "(lam x0 (app g1 x0))", "(raise 9)");
            loom.run(2, 0, 0, 0, 0, false);
            Check.due("promise 23: ahead", loom.value(), 9);
            ends("promise 23: " + texts[i], loom.run(0, 1, 3, 0, none[i] == INTERRUPTED ? 3 : 0, false), none[i], 0);
        }
    }

    /** "many: 0 to 2: on how many numbers", "a: the first one; does not matter without", "b: likewise". */
    private static void manyNumbers() {
        of("(lam x0 (lam x1 (- (* x0 10) x1)))");
        for (int other : new int[] {LEAST, 0, 8, MOST}) {
            ends("promise 21: on none", loom.run(0, 0, other, other, 0, false), FUNCTION, 0);
            counts("on none", 1, 0, 0);
            ends("promise 21: on one", loom.run(0, 1, 3, other, 0, false), FUNCTION, 0);
            counts("on one", 3, 0, 0);
            ends("promise 21: on two", loom.run(0, 2, 3, other, 0, false), NUMBER, 30 - other);
            counts("on two", 9, 0, 0);
            ends("promise 22: on none", loom.plainly(0, 0, other, other, false), FUNCTION, 0);
            ends("promise 22: on one", loom.plainly(0, 1, 3, other, false), FUNCTION, 0);
            ends("promise 22: on two", loom.plainly(0, 2, 3, other, false), NUMBER, 30 - other);
        }
        ends("promise 21: on one of one", loom.run(0, 2, LEAST, MOST, 0, false), NUMBER, LEAST * 10 - MOST);
        of("(lam x0 x0)");
        ends("promise 21: a number on a number", loom.run(0, 2, 3, 4, 0, false), WRONG, 0);
        counts("a number on a number", 4, 0, 0);
    }

    /** "Returns of the last run": one that is refused is none. */
    private static void lastRun() {
        of("(let x0 (+ 1 2) (let x1 (+ 3 4) (par x0 (par x1 (centre 2 (+ x1 1))))))", "5");
        ends("promise 23: a run", loom.run(0, 0, 0, 0, 0, false), NUMBER, 8);
        int[] due = {12, 2, 3, 3, 1, 1, 9, 0, 3, 0};
        for (int what = 0; what < 10; what++) {
            Check.due("promise 24: a run: " + what, loom.count(what), due[what]);
        }
        Check.thrown("promise 21: refused", Check.ARGUMENT, () -> loom.run(0, 0, 0, 0, 601, false));
        Check.thrown("promise 21: refused", Check.STATE, () -> loom.run(0, 0, 0, 0, 0, true));
        Check.thrown("promise 22: refused", Check.STATE, () -> loom.plainly(0, 0, 0, 0, true));
        loom.begin();
        loom.pass(LazyLoom.FOLD, 0);
        loom.define(3, 0);
        loom.needed(0, 0);
        Check.due("promise 23: of the last run", loom.value(), 8);
        for (int what = 0; what < 10; what++) {
            Check.due("promise 24: of the last run: " + what, loom.count(what), due[what]);
        }
        ends("promise 23: another run", loom.plainly(1, 0, 0, 0, false), NUMBER, 5);
        for (int what = 0; what < 10; what++) {
            Check.due("promise 24: another run: " + what, loom.count(what), what == 0 || what == 6 ? 1 : 0);
        }
    }
}
