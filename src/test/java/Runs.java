/** What the tests of runs have in common: looms with some globals, how their runs end, and what counts are due. */
abstract class Runs {
    static final int NUMBER = LazyLoom.NUMBER, FUNCTION = LazyLoom.FUNCTION, DATA = LazyLoom.DATA,
        RAISED = LazyLoom.RAISED, LOOP = LazyLoom.LOOP, WRONG = LazyLoom.WRONG, ENDLESS = LazyLoom.ENDLESS,
        INTERRUPTED = LazyLoom.INTERRUPTED;

    static LazyLoom loom;

    static LazyLoom of(String... globals) {
        loom = new LazyLoom();
        for (int g = 0; g < globals.length; g++) {
            Words.define(loom, g, globals[g]);
        }
        return loom;
    }

    static void ends(String what, int got, int how, int value) {
        Check.due(what, got, how);
        Check.due(what + ": value", loom.value(), value);
    }

    /** Global 0 of a new loom, run with sharing. */
    static void run(int how, int value, String... globals) {
        of(globals);
        ends("promise 21: " + globals[0], loom.run(0, 0, 0, 0, 0, false), how, value);
    }

    /** Global 0 of a new loom, run without sharing. */
    static void plain(int how, int value, String... globals) {
        of(globals);
        ends("promise 22: " + globals[0], loom.plainly(0, 0, 0, 0, false), how, value);
    }

    static void both(int how, int value, String... globals) {
        run(how, value, globals);
        plain(how, value, globals);
    }

    static void counts(String what, int steps, int cells, int updates) {
        Check.due("promise 24: steps: " + what, loom.count(0), steps);
        Check.due("promise 24: cells: " + what, loom.count(1), cells);
        Check.due("promise 24: updates: " + what, loom.count(2), updates);
    }

    static void sparkCounts(String what, int steps, int fizzled, int found) {
        Check.due("promise 24: steps of sparks: " + what, loom.count(3), steps);
        Check.due("promise 24: FIZZLED: " + what, loom.count(4), fizzled);
        Check.due("promise 24: sparks that were found: " + what, loom.count(5), found);
    }

    static void centreCounts(String what, int... steps) {
        for (int centre = 0; centre < 4; centre++) {
            Check.due("promise 24: centre " + centre + ": " + what, loom.count(6 + centre), steps[centre]);
        }
    }

    /** Twenty calls of what takes so many steps, and 19 SEQs. */
    static String twentyCalls() {
        StringBuilder calls = new StringBuilder("(app g1 5)");
        for (int i = 0; i < 19; i++) {
            calls = new StringBuilder("(seq (app g1 5) ").append(calls).append(')');
        }
        return calls.toString();
    }

    static String seqs(int many) {
        StringBuilder seqs = new StringBuilder("1");
        for (int i = 0; i < many; i++) {
            seqs = new StringBuilder("(seq 1 ").append(seqs).append(')');
        }
        return seqs.toString();
    }
}
