/** Promises 9 and 10: the stack of types. */
public final class TypeStackTest {
    private static final int FAR = Integer.MAX_VALUE;
    private static final int LOW = Integer.MIN_VALUE;

    private TypeStackTest() {
    }

    public static void main(String[] args) {
        ranges();
        answers();
        depthLimit();
        madeLimit();
        madeTypes();
        stacksAreApart();
        Check.end();
    }

    private static void ranges() {
        TypedTerms x = new TypedTerms();
        int[][] bad = {{-1, 0}, {6, 0}, {FAR, 0}, {LOW, 0}, {2, -1}, {2, 4}, {2, FAR}, {2, LOW}};
        for (int[] b : bad) {
            Check.due("type " + b[0] + " " + b[1], x.type(b[0], b[1]), TypedTerms.BAD_ARG);
        }
        Check.due("none was pushed", x.untype(), 0);
        Check.due("int with a far k", x.type(0, FAR), 1);
        Check.due("truth with a low k", x.type(1, LOW), 2);
        Check.due("variable 3", x.type(2, 3), 3);
        Check.due("list with a far k", x.type(5, FAR), 3);
        Check.due("pair with a low k", x.type(4, LOW), 2);
        Check.due("arrow with k 9", x.type(3, 9), 1);
    }

    private static void answers() {
        TypedTerms x = new TypedTerms();
        for (int kind = 3; kind <= 5; kind++) {
            Check.due("type of none " + kind, x.type(kind, 0), TypedTerms.TOO_FEW);
        }
        x.type(0, 0);
        Check.due("arrow of one", x.type(3, 0), TypedTerms.TOO_FEW);
        Check.due("pair of one", x.type(4, 0), TypedTerms.TOO_FEW);
        Check.due("list of one", x.type(5, 0), 1);
        Check.due("untype of one", x.untype(), 1);
        Check.due("untype of none", x.untype(), 0);
        Check.due("list after untype", x.type(5, 0), TypedTerms.TOO_FEW);
    }

    private static void depthLimit() {
        TypedTerms x = new TypedTerms();
        for (int i = 1; i <= 8; i++) {
            Check.due("type " + i, x.type(i % 3, 0), i);
        }
        for (int kind = 0; kind <= 2; kind++) {
            Check.due("the ninth of kind " + kind, x.type(kind, 0), TypedTerms.FULL);
        }
        Check.due("a bad ninth", x.type(2, 4), TypedTerms.BAD_ARG);
        Check.due("list on a full stack", x.type(5, 0), 8);
        Check.due("arrow on a full stack", x.type(3, 0), 7);
        Check.due("pair below it", x.type(4, 0), 6);
        Check.due("untype of six", x.untype(), 6);
    }

    private static void madeLimit() {
        TypedTerms x = new TypedTerms();
        x.type(0, 0);
        for (int i = 2; i <= 40; i++) {
            Check.due("made " + i, x.type(5, 0), 1);
        }
        for (int kind = 0; kind <= 5; kind++) {
            Check.due("the 41st of kind " + kind, x.type(kind, 0), TypedTerms.FULL);
        }
        Check.due("the 41st, bad", x.type(6, 0), TypedTerms.BAD_ARG);
        x.clear();
        Check.due("clear does not help", x.type(5, 0), TypedTerms.FULL);
        Check.due("untype", x.untype(), 1);
        Check.due("made anew", x.type(2, 0), 1);
        for (int i = 0; i < 50; i++) {
            x.type(3, 0);
            x.type(2, 7);
        }
        for (int i = 2; i <= 40; i++) {
            Check.due("refused ones don't count " + i, x.type(5, 0), 1);
        }
        Check.due("full again", x.type(5, 0), TypedTerms.FULL);
    }

    private static void madeTypes() {
        String[] types = {"int", "truth", "(-> int truth)", "(* int truth)", "(list int)",
            "(-> (list int) (* truth int))"};
        String[] terms = {"1", "true", "(fun a (less a 1))", "(pair 1 true)", "(cons 1 nil)",
            "(fun a (split b c a (pair true 1) (pair false b)))"};
        for (int i = 0; i < terms.length; i++) {
            for (int j = 0; j < types.length; j++) {
                TypedTerms x = Notation.of(terms[i]);
                Notation.type(x, types[j]);
                Check.due(terms[i] + " fits " + types[j], x.fits(), i == j);
            }
        }
    }

    private static void stacksAreApart() {
        TypedTerms x = new TypedTerms();
        x.leaf(0, 1);
        x.leaf(0, 1);
        Notation.type(x, "(-> int int)");
        Check.due("depth", x.depth(), 2);
        Check.due("untype", x.untype(), 1);
        Check.due("depth after untype", x.depth(), 2);
        Check.due("the top after untype", x.typeSize(), 1);
        x.type(0, 0);
        x.drop();
        Check.due("untype after drop", x.untype(), 1);
    }
}
