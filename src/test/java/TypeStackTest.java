/** Promises 9 and 10: type and untype. */
public final class TypeStackTest {
    private TypeStackTest() {
    }

    public static void main(String[] args) {
        kinds();
        variables();
        otherArguments();
        madeTypes();
        leftAndRight();
        answers();
        holdsEight();
        fortyMade();
        refusedOnesAreNotMade();
        tooFew();
        order();
        untypeAnswers();
        untypeForgetsTheMade();
        untypeLeavesTheTerms();
        Check.end();
    }

    private static void range(int kind, int k, boolean fine) {
        TypedTerms x = Made.types(2, 2);
        int held = kind <= 2 ? 3 : kind == 5 ? 2 : 1;
        Check.due("type " + kind + " " + k, x.type(kind, k), fine ? held : TypedTerms.BAD_ARG);
        Check.due("untype after it", x.untype(), fine ? held : 2);
    }

    private static void kinds() {
        Check.sentence("type: kind out of its range answers BAD_ARG");
        int[] bad = {Made.MIN, Made.MIN + 2, -256, -2, -1, 6, 7, 10, 256, 258, Made.MAX};
        for (int kind : bad) {
            range(kind, 0, false);
            range(kind, 3, false);
            range(kind, Made.MAX, false);
        }
    }

    private static void variables() {
        Check.sentence("type 2: variable k (0 to 3)");
        for (int k = -10; k <= 20; k++) {
            range(2, k, k >= 0 && k <= 3);
        }
        int[] far = {Made.MIN, -256, 256, 259, Made.MAX};
        for (int k : far) {
            range(2, k, false);
        }
        for (int i = 0; i <= 3; i++) {
            for (int j = 0; j <= 3; j++) {
                TypedTerms x = Notation.of("(fun a a)");
                Notation.type(x, "(-> v" + i + " v" + j + ")");
                Check.due("variables " + i + " and " + j, x.fits(), i == j);
            }
        }
    }

    private static void otherArguments() {
        Check.sentence("type: else k does not matter");
        int[] kinds = {0, 1, 3, 4, 5};
        int[] tried = {Made.MIN, -1, 0, 3, 4, Made.MAX};
        for (int kind : kinds) {
            for (int k : tried) {
                range(kind, k, true);
            }
        }
    }

    private static void madeTypes() {
        Check.sentence("type, by kind, 0: int, .., 5: [S]");
        String[] types = {"int", "truth", "(-> int truth)", "(* int truth)", "(list int)",
            "(-> (list int) (* truth int))"};
        String[] terms = {"1", "true", "(fun a (less a 1))", "(pair 1 true)", "(cons 1 nil)",
            "(fun a (split b c a (pair true 1) (pair false b)))"};
        for (int i = 0; i < terms.length; i++) {
            for (int j = 0; j < types.length; j++) {
                TypedTerms x = Notation.of(terms[i]);
                Notation.type(x, types[j]);
                Check.due(terms[i] + " fits " + types[j], x.fits(), i == j);
            }
        }
    }

    private static void leftAndRight() {
        Check.sentence("type 3: S -> T, 4: (S, T) (T the top)");
        TypedTerms x = Notation.of("(fun a (less a 1))");
        Notation.type(x, "(-> truth int)");
        Check.due("truth -> int", x.fits(), false);
        Notation.type(x, "(-> int truth)");
        Check.due("int -> truth", x.fits(), true);
        Notation.term(x, "(pair 1 true)");
        Notation.type(x, "(* truth int)");
        Check.due("(truth, int)", x.fits(), false);
        Notation.type(x, "(* int truth)");
        Check.due("(int, truth)", x.fits(), true);
    }

    private static void answers() {
        Check.sentence("type: otherwise the number on the stack");
        for (int held = 1; held <= 8; held++) {
            Check.due("list on " + held, Made.types(held, held).type(5, 0), held);
            if (held >= 2) {
                Check.due("arrow on " + held, Made.types(held, held).type(3, 0), held - 1);
                Check.due("pair on " + held, Made.types(held, held).type(4, 0), held - 1);
            }
            for (int kind = 0; kind <= 2; kind++) {
                TypedTerms x = Made.types(held - 1, held - 1);
                Check.due("kind " + kind + " on " + (held - 1), x.type(kind, 3), held);
            }
        }
    }

    private static void holdsEight() {
        Check.sentence("type: the stack holds 8 (kind 0 to 2), answers FULL");
        for (int kind = 0; kind <= 2; kind++) {
            TypedTerms x = Made.types(7, 7);
            Check.due("the eighth, kind " + kind, x.type(kind, 0), 8);
            Check.due("the ninth, kind " + kind, x.type(kind, 0), TypedTerms.FULL);
            Check.due("untype", x.untype(), 8);
        }
        for (int kind = 3; kind <= 5; kind++) {
            Check.due("kind " + kind + " on eight", Made.types(8, 8).type(kind, 0),
                    kind == 5 ? 8 : 7);
        }
        TypedTerms x = Made.types(8, 8);
        x.type(1, 0);
        x.leaf(0, 1);
        Check.due("the top after a refused type", x.fits(), true);
        TypedTerms y = Made.terms(8, 8);
        Check.due("a type beside eight terms", y.type(0, 0), 1);
    }

    private static void fortyMade() {
        Check.sentence("type: 40 types were made since untype was called last, answers FULL");
        for (int kind = 0; kind <= 5; kind++) {
            TypedTerms x = Made.types(39, 2);
            int held = kind <= 2 ? 3 : kind == 5 ? 2 : 1;
            Check.due("the 40th, kind " + kind, x.type(kind, 0), held);
            for (int other = 0; other <= 5; other++) {
                Check.due("the 41st, kind " + other, x.type(other, 0), TypedTerms.FULL);
            }
            x.clear();
            Check.due("clear gives no room", x.type(kind, 0), TypedTerms.FULL);
            Check.due("untype", x.untype(), held);
            Check.due("after untype", x.type(0, 0), 1);
        }
    }

    private static void refusedOnesAreNotMade() {
        Check.sentence("type: a refused call changes nothing");
        TypedTerms x = new TypedTerms();
        for (int i = 0; i < 20; i++) {
            x.type(3, 0);
            x.type(5, 0);
            x.type(2, 4);
            x.type(6, 0);
        }
        x.type(0, 0);
        for (int i = 2; i <= 40; i++) {
            Check.due("made " + i, x.type(5, 0), 1);
        }
        Check.due("the 41st", x.type(5, 0), TypedTerms.FULL);
        TypedTerms y = Made.types(8, 8);
        for (int i = 0; i < 40; i++) {
            y.type(0, 0);
        }
        for (int i = 9; i <= 40; i++) {
            Check.due("made " + i, y.type(5, 0), 8);
        }
        Check.due("the 41st on eight", y.type(5, 0), TypedTerms.FULL);
    }

    private static void tooFew() {
        Check.sentence("type: TOO_FEW");
        for (int kind = 3; kind <= 5; kind++) {
            TypedTerms x = new TypedTerms();
            Check.due("kind " + kind + " on none", x.type(kind, 0), TypedTerms.TOO_FEW);
            x.leaf(0, 1);
            x.leaf(0, 1);
            Check.due("kind " + kind + " beside terms", x.type(kind, 0), TypedTerms.TOO_FEW);
            Check.due("untype", x.untype(), 0);
            Check.due("kind " + kind + " on one", Made.types(1, 1).type(kind, 0),
                    kind == 5 ? 1 : TypedTerms.TOO_FEW);
            Check.due("kind " + kind + " on two", Made.types(2, 2).type(kind, 0),
                    kind == 5 ? 2 : 1);
            TypedTerms y = Made.types(8, 8);
            y.untype();
            Check.due("kind " + kind + " after untype", y.type(kind, 0), TypedTerms.TOO_FEW);
        }
        TypedTerms z = Made.types(1, 1);
        z.type(3, 0);
        z.leaf(0, 1);
        Check.due("the one type after a refused arrow", z.fits(), true);
        Check.due("untype after a refused arrow", z.untype(), 1);
    }

    private static void order() {
        Check.sentence("type: tested in this order: BAD_ARG, FULL, TOO_FEW");
        int[][] bad = {{-1, 0}, {6, 0}, {2, -1}, {2, 4}};
        for (int[] b : bad) {
            Check.due("bad on none", new TypedTerms().type(b[0], b[1]), TypedTerms.BAD_ARG);
            Check.due("bad on eight", Made.types(8, 8).type(b[0], b[1]), TypedTerms.BAD_ARG);
            Check.due("bad after 40", Made.types(40, 1).type(b[0], b[1]), TypedTerms.BAD_ARG);
            Check.due("bad after 40, on 8", Made.types(40, 8).type(b[0], b[1]), TypedTerms.BAD_ARG);
        }
        for (int kind = 3; kind <= 4; kind++) {
            Check.due("too few after 40", Made.types(40, 1).type(kind, 0), TypedTerms.FULL);
            Check.due("too few after 39", Made.types(39, 1).type(kind, 0), TypedTerms.TOO_FEW);
        }
    }

    private static void untypeAnswers() {
        Check.sentence("untype: empties the stack of types, answers how many were on it");
        for (int held = 0; held <= 8; held++) {
            TypedTerms x = Made.types(held, held);
            Check.due("untype of " + held, x.untype(), held);
            Check.due("untype again", x.untype(), 0);
            x.leaf(0, 1);
            Check.due("fits after untype", x.fits(), false);
            Check.due("type after untype", x.type(0, 0), 1);
            Check.due("fits with a new one", x.fits(), true);
        }
    }

    private static void untypeForgetsTheMade() {
        Check.sentence("untype: types made before do not count");
        TypedTerms x = Made.types(40, 1);
        x.untype();
        x.type(1, 0);
        for (int i = 2; i <= 40; i++) {
            Check.due("made anew " + i, x.type(5, 0), 1);
        }
        Check.due("full again", x.type(5, 0), TypedTerms.FULL);
        x.untype();
        x.untype();
        for (int i = 1; i <= 8; i++) {
            Check.due("pushed anew " + i, x.type(0, 0), i);
        }
    }

    private static void untypeLeavesTheTerms() {
        Check.sentence("untype: the stack of terms is another one");
        TypedTerms x = Made.terms(20, 8);
        x.type(0, 0);
        x.untype();
        Check.due("depth", x.depth(), 8);
        Check.due("the top", x.number(0), 8);
        x.drop();
        Check.due("room", Made.room(x), 20);
        TypedTerms y = Made.types(3, 3);
        y.leaf(0, 1);
        y.drop();
        Check.due("drop leaves the types", y.untype(), 3);
    }
}
