/** Promise 3: one. */
public final class OneTest {
    private OneTest() {
    }

    public static void main(String[] args) {
        functions();
        owns();
        parts();
        kinds();
        inPlaceOfTheTop();
        fortyMade();
        tooFew();
        order();
        Check.end();
    }

    private static void range(int kind, int k, boolean fine) {
        TypedTerms x = Made.terms(1, 1);
        String call = "one " + kind + " " + k;
        Check.due(call, x.one(kind, k), fine ? 1 : TypedTerms.BAD_ARG);
        Check.due("room after " + call, Made.room(x), fine ? 38 : 39);
    }

    private static void functions() {
        Check.sentence("one 0: function k X (k from 0 to 7)");
        for (int k = -10; k <= 20; k++) {
            range(0, k, k >= 0 && k <= 7);
        }
        int[] far = {Made.MIN, -256, 63, 64, 256, Made.MAX};
        for (int k : far) {
            range(0, k, false);
        }
        for (int k = 0; k <= 7; k++) {
            for (int name = 0; name <= 7; name++) {
                TypedTerms x = new TypedTerms();
                x.leaf(2, name);
                x.one(0, k);
                Check.due("function " + k + " of name " + name, Notation.typeOf(x),
                        k == name ? "2 10 10" : "ILL");
            }
        }
    }

    private static void owns() {
        Check.sentence("one 1: own f x X with k = 8 f + x (0 to 63)");
        for (int k = -70; k <= 140; k++) {
            range(1, k, k >= 0 && k <= 63);
        }
        int[] far = {Made.MIN, -256, 256, 319, Made.MAX};
        for (int k : far) {
            range(1, k, false);
        }
        for (int k = 0; k <= 63; k++) {
            int f = k / 8;
            int a = k % 8;
            TypedTerms x = new TypedTerms();
            x.leaf(2, f);
            x.leaf(2, a);
            x.leaf(0, 1);
            x.two(3, 0);
            x.two(0, 0);
            x.one(1, k);
            Check.due("own " + k + " of apply f (add x 1)", Notation.typeOf(x),
                    f == a ? "ILL" : "2 0 10");
        }
    }

    private static void parts() {
        Check.sentence("one 2: first X, 3: second X (k does not matter)");
        int[] tried = {Made.MIN, -1, 0, 7, 8, 63, 64, Made.MAX};
        for (int k : tried) {
            for (int kind = 2; kind <= 3; kind++) {
                range(kind, k, true);
                TypedTerms x = Notation.of("(pair 2 3)");
                x.one(kind, k);
                Check.due("part " + kind + " with " + k, x.number(0), kind);
            }
        }
    }

    private static void kinds() {
        Check.sentence("one: kind out of its range answers BAD_ARG");
        int[] bad = {Made.MIN, Made.MIN + 2, -256, -4, -3, -2, -1, 4, 5, 8, 256, 258, Made.MAX - 3,
            Made.MAX};
        for (int kind : bad) {
            range(kind, 0, false);
            range(kind, 7, false);
            range(kind, Made.MIN, false);
        }
    }

    private static void inPlaceOfTheTop() {
        Check.sentence("one: in place of the top; otherwise the number on the stack");
        for (int held = 1; held <= 8; held++) {
            for (int kind = 0; kind <= 3; kind++) {
                TypedTerms x = Made.terms(held, held);
                Check.due("one " + kind + " on " + held, x.one(kind, 0), held);
                Check.due("depth", x.depth(), held);
                Check.due("typed", x.typed(), kind <= 1 ? held : held - 1);
                Check.due("drop", x.drop(), held - 1);
                Check.due("what was below", x.number(0), held - 1);
            }
        }
    }

    private static void fortyMade() {
        Check.sentence("one: 40 terms answers FULL");
        for (int held = 1; held <= 8; held += 7) {
            for (int kind = 0; kind <= 3; kind++) {
                TypedTerms x = Made.terms(39, held);
                Check.due("the 40th, kind " + kind, x.one(kind, 0), held);
                Check.due("the 41st, kind " + kind, x.one(kind, 0), TypedTerms.FULL);
                Check.due("depth", x.depth(), held);
                x.clear();
                x.leaf(3, 0);
                Check.due("after clear", x.one(kind, 0), 1);
            }
        }
        TypedTerms x = Made.terms(40, 2);
        x.one(0, 0);
        Check.due("the top after a refused one", Notation.valueOf(x), "0:2");
    }

    private static void tooFew() {
        Check.sentence("one: TOO_FEW");
        for (int kind = 0; kind <= 3; kind++) {
            TypedTerms x = new TypedTerms();
            Check.due("on a new object, kind " + kind, x.one(kind, 0), TypedTerms.TOO_FEW);
            Check.due("depth", x.depth(), 0);
            x.leaf(0, 1);
            x.drop();
            Check.due("after drop, kind " + kind, x.one(kind, 0), TypedTerms.TOO_FEW);
            x.leaf(0, 1);
            x.clear();
            Check.due("after clear, kind " + kind, x.one(kind, 0), TypedTerms.TOO_FEW);
            x.type(0, 0);
            Check.due("a type is no term, kind " + kind, x.one(kind, 0), TypedTerms.TOO_FEW);
            Check.due("refused ones are not made", Made.room(x), 40);
        }
    }

    private static void order() {
        Check.sentence("one: tested in this order: BAD_ARG, FULL, TOO_FEW");
        int[][] bad = {{-1, 0}, {4, 0}, {0, -1}, {0, 8}, {1, -1}, {1, 64}};
        int[][] good = {{0, 0}, {0, 7}, {1, 0}, {1, 63}, {2, -1}, {3, 64}};
        for (int[] b : bad) {
            Check.due("bad, too few", new TypedTerms().one(b[0], b[1]), TypedTerms.BAD_ARG);
            Check.due("bad, 40, too few", Made.terms(40, 0).one(b[0], b[1]), TypedTerms.BAD_ARG);
            Check.due("bad, 40", Made.terms(40, 1).one(b[0], b[1]), TypedTerms.BAD_ARG);
        }
        for (int[] g : good) {
            Check.due("40, too few", Made.terms(40, 0).one(g[0], g[1]), TypedTerms.FULL);
            Check.due("40", Made.terms(40, 1).one(g[0], g[1]), TypedTerms.FULL);
            Check.due("39, too few", Made.terms(39, 0).one(g[0], g[1]), TypedTerms.TOO_FEW);
        }
    }
}
