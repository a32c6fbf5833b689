/** Promises 14 and 15: whether a term has a type, and whether some type is an instance of both. */
public final class FitsMeetsTest {
    private FitsMeetsTest() {
    }

    public static void main(String[] args) {
        nothingToCompare();
        plainTypes();
        variablesOfTheTerm();
        variablesOfTheType();
        sameVariables();
        variablesAreDifferentOnes();
        partsOfThemselves();
        theTopsAlone();
        typesAfterUntype();
        Check.end();
    }

    private static void compare(String term, String type, boolean fits, boolean meets) {
        TypedTerms x = Notation.of(term);
        Notation.type(x, type);
        Check.due(term + " fits " + type, x.fits(), fits);
        Check.due(term + " meets " + type, x.meets(), meets);
        Check.due(term + " fits " + type + " once more", x.fits(), fits);
    }

    private static void nothingToCompare() {
        TypedTerms x = new TypedTerms();
        Check.due("fits of nothing", x.fits(), false);
        Check.due("meets of nothing", x.meets(), false);
        x.leaf(0, 1);
        Check.due("fits without a type", x.fits(), false);
        Check.due("meets without a type", x.meets(), false);
        x.drop();
        x.type(0, 0);
        Check.due("fits without a term", x.fits(), false);
        Check.due("meets without a term", x.meets(), false);
        compare("a", "v0", false, false);
        compare("(fun a (app a a))", "v0", false, false);
        compare("(fun a (app a a))", "(-> v0 v1)", false, false);
        compare("(add 1 true)", "int", false, false);
    }

    private static void plainTypes() {
        compare("1", "int", true, true);
        compare("1", "truth", false, false);
        compare("true", "truth", true, true);
        compare("true", "int", false, false);
        compare("(pair 1 true)", "(* int truth)", true, true);
        compare("(pair 1 true)", "(* truth int)", false, false);
        compare("(pair 1 true)", "(-> int truth)", false, false);
        compare("(cons 1 nil)", "(list int)", true, true);
        compare("(cons 1 nil)", "(list truth)", false, false);
        compare("(cons 1 nil)", "int", false, false);
    }

    private static void variablesOfTheTerm() {
        compare("nil", "(list int)", true, true);
        compare("nil", "(list (list (-> int truth)))", true, true);
        compare("nil", "int", false, false);
        compare("(fun a a)", "(-> int int)", true, true);
        compare("(fun a a)", "(-> int truth)", false, false);
        compare("(fun a a)", "(-> (list int) (list int))", true, true);
        compare("(fun a a)", "(-> (list int) (list truth))", false, false);
        compare("(fun a (fun b a))", "(-> int (-> truth int))", true, true);
        compare("(fun a (fun b a))", "(-> int (-> truth truth))", false, false);
        compare("(app (own a b (app a b)) 1)", "(* int (list truth))", true, true);
    }

    private static void variablesOfTheType() {
        compare("1", "v0", false, true);
        compare("nil", "v3", false, true);
        compare("nil", "(list v2)", true, true);
        compare("(fun a a)", "(-> v0 v0)", true, true);
        compare("(fun a a)", "(-> v0 v1)", false, true);
        compare("(fun a (fun b a))", "(-> v1 (-> v0 v1))", true, true);
        compare("(fun a (fun b a))", "(-> v1 (-> v0 v0))", false, true);
        compare("(fun a (fun b a))", "(-> v1 (-> v1 v1))", true, true);
        compare("(fun a (add a 1))", "(-> v0 int)", false, true);
        compare("(fun a (add a 1))", "(-> v0 truth)", false, false);
        compare("(fun a nil)", "(-> v0 (list v0))", true, true);
        compare("(fun a nil)", "(-> v0 v0)", false, true);
        compare("(app (own a b (app a b)) 1)", "v0", true, true);
        compare("(fun a (fst a))", "(-> (* v0 v1) v0)", true, true);
        compare("(fun a (fst a))", "(-> v0 v1)", false, true);
        compare("(fun a (fst a))", "(-> (* v0 v1) v1)", false, true);
        compare("(fun a (fst a))", "(-> (* int truth) truth)", false, false);
    }

    /** The same variable means the same type everywhere in the type. */
    private static void sameVariables() {
        compare("(pair 1 true)", "(* v0 v0)", false, false);
        compare("(pair 1 true)", "(* v0 v1)", false, true);
        compare("(pair 1 2)", "(* v0 v0)", false, true);
        compare("(pair nil nil)", "(* v0 v0)", false, true);
        compare("(pair nil (cons 1 nil))", "(* v0 v0)", false, true);
        compare("(pair nil (cons 1 nil))", "(* (list v0) (list v0))", false, true);
        compare("(pair nil 1)", "(* v0 v0)", false, false);
        compare("(fun a (fun b (pair a b)))", "(-> v2 (-> v2 (* v2 v2)))", true, true);
        compare("(fun a (pair a a))", "(-> v0 (* v1 v2))", false, true);
        compare("(fun a (pair a a))", "(-> v0 (* int truth))", false, false);
        compare("(fun a (pair a a))", "(-> (list v0) (* (list v0) (list v0)))", true, true);
        compare("(fun a (pair a a))", "(-> (list v0) (* (list v0) (list v1)))", false, true);
        compare("(fun a (pair a a))", "(-> (list v0) (* (list v0) v0))", false, false);
    }

    /** A variable of the term is never the one of the same number in the type. */
    private static void variablesAreDifferentOnes() {
        compare("(fun a (fun b b))", "(-> (list v0) (-> v0 v0))", true, true);
        compare("(fun a a)", "(-> (list v0) (list v0))", true, true);
        compare("nil", "(list (list v0))", true, true);
        compare("(fun a (cons a nil))", "(-> (list v0) v1)", false, true);
        compare("(fun a (fun b a))", "(-> v1 (-> v2 v1))", true, true);
        compare("(fun a (pair a nil))", "(-> (list v0) (* v1 (list v0)))", false, true);
    }

    private static void partsOfThemselves() {
        compare("(fun a a)", "(-> v0 (list v0))", false, false);
        compare("(fun a a)", "(-> v0 (* v0 int))", false, false);
        compare("(fun a (cons a nil))", "(-> v0 v0)", false, false);
        compare("(fun a (pair a nil))", "(-> v0 (* (list v0) v1))", false, false);
        compare("(fun a (fun b (pair a b)))", "(-> v0 (-> (list v0) (* v1 v1)))", false, false);
        compare("(fun a (fun b (cons a (cons b nil))))", "(-> v0 (-> (list v0) v1))", false, false);
    }

    private static void theTopsAlone() {
        TypedTerms x = Notation.of("true");
        x.leaf(0, 1);
        Notation.type(x, "truth");
        Check.due("the term below is not asked", x.fits(), false);
        Check.due("nor met", x.meets(), false);
        x.type(0, 0);
        Check.due("the upper term has the upper type", x.fits(), true);
        x.drop();
        Check.due("the lower term has not", x.fits(), false);
    }

    private static void typesAfterUntype() {
        TypedTerms x = Notation.of("(fun a (pair a a))");
        Notation.type(x, "(-> (list v0) (* (list v0) (list v0)))");
        Check.due("before untype", x.fits(), true);
        x.untype();
        Check.due("after untype", x.fits(), false);
        Check.due("meets after untype", x.meets(), false);
        Notation.type(x, "(-> int (* int truth))");
        Check.due("another type", x.fits(), false);
        Check.due("meets another type", x.meets(), false);
        x.untype();
        Notation.type(x, "(-> v3 (* v3 v3))");
        Check.due("a third", x.fits(), true);
    }
}
