/** The example in README.md, call by call: each answers what is said there. */
public final class ReadmeTest {
    public static void main(String[] args) {
        LazyLoom loom = new LazyLoom();
        int x = loom.var(0);
        int y = loom.var(1);
        int more = loom.prim(0, x, loom.num(1));
        int square = loom.prim(2, y, y);
        int choice = loom.choose(x, square, loom.num(0));
        Check.due("define", loom.define(0, loom.lam(0, loom.let(1, more, choice))), 11);
        Check.due("begin", loom.begin(), 1);
        Check.due("FLOAT", loom.pass(LazyLoom.FLOAT, 0), 1);
        Check.due("STRICTLY", loom.pass(LazyLoom.STRICTLY, 0), 1);
        Check.due("needed", loom.needed(0, 0), 1);
        Check.due("node", loom.node(0, 1, 0), 9);
        Check.due("that of the beginning", loom.run(0, 1, 6, 0, 0, true), LazyLoom.NUMBER);
        Check.due("its value", loom.value(), 49);
        Check.due("its cells", loom.count(1), 1);
        Check.due("that of now", loom.run(0, 1, 6, 0, 0, false), LazyLoom.NUMBER);
        Check.due("its value", loom.value(), 49);
        Check.due("its cells", loom.count(1), 0);
        Check.due("without sharing", loom.plainly(0, 1, 6, 0, true), LazyLoom.NUMBER);
        Check.due("its steps", loom.count(0), 14);
        Check.due("ahead of the 5th step", loom.run(0, 1, 6, 0, 5, false), LazyLoom.INTERRUPTED);
        Check.end("ReadmeTest");
    }
}
