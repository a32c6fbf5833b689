/** Promise 5: three. */
public final class ThreeTest {
    private ThreeTest() {
    }

    public static void main(String[] args) {
        makes();
        splitNames();
        chooseArguments();
        kinds();
        takesThree();
        fortyMade();
        tooFew();
        order();
        Check.end();
    }

    private static void makes() {
        Check.sentence("three, by kind, 0: choose X Y Z, 1: split h t X Y Z (Z the top)");
        Check.due("choose true", Notation.valueOf(Notation.of("(if true 1 2)")), "0:1");
        Check.due("choose false", Notation.valueOf(Notation.of("(if false 1 2)")), "0:2");
        Check.due("split of empty", Notation.valueOf(Notation.of("(split a b nil 3 a)")), "0:3");
        Check.due("split of one", Notation.valueOf(Notation.of("(split a b (cons 4 nil) 3 a)")),
                "0:4");
        Check.due("Z is no truth", Notation.typeOf(Notation.of("(if 1 2 true)")), "ILL");
        Check.due("Y has no names", Notation.typeOf(Notation.of("(split a b nil a 3)")), "ILL");
        Check.due("X has no names", Notation.typeOf(Notation.of("(split a b b 3 a)")), "ILL");
    }

    private static void range(int kind, int k, boolean fine) {
        TypedTerms x = Made.terms(3, 3);
        String call = "three " + kind + " " + k;
        Check.due(call, x.three(kind, k), fine ? 1 : TypedTerms.BAD_ARG);
        Check.due("depth after " + call, x.depth(), fine ? 1 : 3);
        Check.due("room after " + call, Made.room(x), fine ? 36 : 37);
    }

    private static void splitNames() {
        Check.sentence("three 1: split h t X Y Z with k = 8 h + t (h and t different)");
        for (int k = -140; k <= 140; k++) {
            range(1, k, k >= 0 && k <= 63 && k % 9 != 0);
        }
        int[] far = {Made.MIN, Made.MIN + 1, -256, 256, 257, Made.MAX};
        for (int k : far) {
            range(1, k, false);
        }
        for (int k = 0; k <= 63; k++) {
            TypedTerms x = new TypedTerms();
            Notation.term(x, "(cons 4 (cons 5 nil))");
            Notation.term(x, "(pair 0 nil)");
            x.leaf(2, k / 8);
            x.leaf(2, k % 8);
            x.two(1, 0);
            if (x.three(1, k) == 1) {
                Check.due("split " + k, Notation.valueOf(x), "3:0 0:4 4:1 0:5");
            }
        }
    }

    private static void chooseArguments() {
        Check.sentence("three 0: else k does not matter");
        for (int k = -10; k <= 80; k++) {
            range(0, k, true);
        }
        range(0, Made.MIN, true);
        range(0, Made.MAX, true);
    }

    private static void kinds() {
        Check.sentence("three: kind out of its range answers BAD_ARG");
        int[] bad = {Made.MIN, Made.MIN + 1, -256, -17, -2, -1, 2, 3, 17, 18, 256, 257,
            Made.MAX - 16, Made.MAX};
        for (int kind : bad) {
            range(kind, 0, false);
            range(kind, 1, false);
            range(kind, Made.MIN, false);
        }
    }

    private static void takesThree() {
        Check.sentence("three: otherwise the number on the stack");
        for (int held = 3; held <= 8; held++) {
            for (int kind = 0; kind <= 1; kind++) {
                TypedTerms x = Made.terms(held, held);
                Check.due("three " + kind + " on " + held, x.three(kind, 1), held - 2);
                Check.due("depth", x.depth(), held - 2);
                Check.due("drop", x.drop(), held - 3);
                Check.due("what was below", x.number(0), held - 3);
            }
        }
    }

    private static void fortyMade() {
        Check.sentence("three: 40 terms answers FULL");
        for (int kind = 0; kind <= 1; kind++) {
            TypedTerms x = Made.terms(39, 6);
            Check.due("the 40th, kind " + kind, x.three(kind, 1), 4);
            Check.due("the 41st, kind " + kind, x.three(kind, 1), TypedTerms.FULL);
            Check.due("depth", x.depth(), 4);
            x.clear();
            Made.hold(x, 3);
            Check.due("after clear, kind " + kind, x.three(kind, 1), 1);
        }
        TypedTerms x = Made.terms(40, 4);
        x.three(0, 0);
        for (int i = 4; i >= 1; i--) {
            Check.due("number " + i + " after a refused three", x.number(0), i);
            x.drop();
        }
    }

    private static void tooFew() {
        Check.sentence("three: TOO_FEW");
        for (int kind = 0; kind <= 1; kind++) {
            for (int held = 0; held <= 2; held++) {
                TypedTerms x = Made.terms(6, held);
                Check.due("three " + kind + " on " + held, x.three(kind, 1), TypedTerms.TOO_FEW);
                Check.due("depth", x.depth(), held);
                Check.due("number", x.number(0), held);
                Check.due("room", Made.room(x), 34);
            }
            Check.due("three " + kind + " on 3", Made.terms(6, 3).three(kind, 1), 1);
        }
    }

    private static void order() {
        Check.sentence("three: tested in this order: BAD_ARG, FULL, TOO_FEW");
        int[][] bad = {{-1, 1}, {2, 1}, {1, -1}, {1, 64}, {1, 0}, {1, 63}};
        int[][] good = {{0, 0}, {0, -1}, {0, 64}, {1, 1}, {1, 62}};
        for (int held = 0; held <= 3; held++) {
            for (int[] b : bad) {
                Check.due("bad on " + held, Made.terms(3, held).three(b[0], b[1]),
                        TypedTerms.BAD_ARG);
                Check.due("bad on " + held + ", 40 terms", Made.terms(40, held).three(b[0], b[1]),
                        TypedTerms.BAD_ARG);
            }
            for (int[] g : good) {
                Check.due("on " + held + ", 40 terms", Made.terms(40, held).three(g[0], g[1]),
                        TypedTerms.FULL);
            }
        }
        Check.due("on 2, 39 terms", Made.terms(39, 2).three(1, 1), TypedTerms.TOO_FEW);
    }
}
