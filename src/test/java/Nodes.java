/** What nodes can be told to: a LazyLoom, or a Pair. */
interface Nodes {
    int num(int n);

    int var(int x);

    int global(int g);

    int lam(int x, int b);

    int app(int f, int a);

    int let(int x, int e, int b);

    int con(int t, int a, int b);

    int match(int e, int t, int x, int y, int b, int c);

    int choose(int e, int b, int c);

    int prim(int o, int a, int b);

    int seq(int a, int b);

    int raise(int a);

    int hold(int a, int x, int b);

    int par(int x, int b);

    int centre(int c, int b);

    /** Those of a LazyLoom. */
    record Of(LazyLoom loom) implements Nodes {
        @Override
        public int num(int n) {
            return loom.num(n);
        }

        @Override
        public int var(int x) {
            return loom.var(x);
        }

        @Override
        public int global(int g) {
            return loom.global(g);
        }

        @Override
        public int lam(int x, int b) {
            return loom.lam(x, b);
        }

        @Override
        public int app(int f, int a) {
            return loom.app(f, a);
        }

        @Override
        public int let(int x, int e, int b) {
            return loom.let(x, e, b);
        }

        @Override
        public int con(int t, int a, int b) {
            return loom.con(t, a, b);
        }

        @Override
        public int match(int e, int t, int x, int y, int b, int c) {
            return loom.match(e, t, x, y, b, c);
        }

        @Override
        public int choose(int e, int b, int c) {
            return loom.choose(e, b, c);
        }

        @Override
        public int prim(int o, int a, int b) {
            return loom.prim(o, a, b);
        }

        @Override
        public int seq(int a, int b) {
            return loom.seq(a, b);
        }

        @Override
        public int raise(int a) {
            return loom.raise(a);
        }

        @Override
        public int hold(int a, int x, int b) {
            return loom.hold(a, x, b);
        }

        @Override
        public int par(int x, int b) {
            return loom.par(x, b);
        }

        @Override
        public int centre(int c, int b) {
            return loom.centre(c, b);
        }
    }
}
