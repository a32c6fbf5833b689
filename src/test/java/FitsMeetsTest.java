/** Promises 14 and 15: whether a term has a type, and whether some type is an instance of both. */
public final class FitsMeetsTest {
    private FitsMeetsTest() {
    }

    public static void main(String[] args) {
        nothingToCompare();
        illTerms();
        largeTypes();
        plainTypes();
        variablesOfTheTerm();
        variablesOfTheType();
        sameVariables();
        variablesAreDifferentOnes();
        partsOfThemselves();
        theTopsAlone();
        typesAfterUntype();
        Check.end();
    }

    private static void compare(String term, String type, boolean fits, boolean meets) {
        TypedTerms x = Notation.of(term);
        Notation.type(x, type);
        Check.due(term + " fits " + type, x.fits(), fits);
        Check.due(term + " meets " + type, x.meets(), meets);
        Check.due(term + " fits " + type + " once more", x.fits(), fits);
    }

    private static void neither(String state, TypedTerms x) {
        Check.due("fits " + state, x.fits(), false);
        Check.due("meets " + state, x.meets(), false);
    }

    private static void nothingToCompare() {
        Check.sentence("fits, meets: false if there is none");
        neither("of a new object", new TypedTerms());
        neither("without a type", Made.terms(1, 1));
        neither("without a type, on a full stack", Made.terms(8, 8));
        neither("without a term", Made.types(1, 1));
        neither("without a term, on a full stack", Made.types(8, 8));
        TypedTerms x = Made.terms(1, 1);
        Notation.type(x, "int");
        Check.due("with both", x.fits() && x.meets(), true);
        x.drop();
        neither("after drop", x);
        x.leaf(0, 1);
        Check.due("with a new term", x.fits() && x.meets(), true);
        x.clear();
        neither("after clear", x);
        x.leaf(0, 1);
        x.untype();
        neither("after untype", x);
        Notation.type(x, "int");
        Check.due("with a new type", x.fits() && x.meets(), true);
    }

    private static void illTerms() {
        Check.sentence("fits, meets: false if the term is not typed");
        String[] terms = {"a", "(fun a b)", "(fun a (app a a))", "(add 1 true)", "(app 1 1)",
            "(let a b 1)", "(fst 1)", "(if 1 1 1)", "(pair 1 h)", "(cons 1 1)"};
        String[] types = {"v0", "v3", "int", "truth", "(-> v0 v1)", "(* v0 v1)", "(list v0)"};
        for (String term : terms) {
            for (String type : types) {
                compare(term, type, false, false);
            }
        }
        // The typed term below does not count.
        TypedTerms x = Notation.of("1");
        Notation.term(x, "a");
        Notation.type(x, "int");
        neither("of a name above a number", x);
        x.drop();
        Check.due("of the number", x.fits() && x.meets(), true);
    }

    /** The largest types that can be made, and types of terms that are LONG. */
    private static void largeTypes() {
        Check.sentence("fits, meets: types of 40 symbols, and types that are LONG");
        for (int last = 0; last <= 2; last++) {
            TypedTerms x = new TypedTerms();
            x.type(last, 3);
            for (int i = 2; i <= 40; i++) {
                x.type(5, 0);
            }
            x.leaf(3, 0);
            Check.due("empty has 39 lists of kind " + last, x.fits() && x.meets(), true);
            x.leaf(0, 1);
            neither("of a number and 39 lists", x);
            Notation.term(x, "(cons 1 nil)");
            neither("of a list of a number and 39 lists", x);
        }
        compare(Notation.doubledTenTimes("1"), "v2", false, true);
        compare(Notation.doubledTenTimes("1"), "(* v2 v2)", false, true);
        compare(Notation.doubledTenTimes("1"), "(* v2 (list v1))", false, false);
        compare("(fun c " + Notation.doubledTenTimes("c") + ")", "(-> int (* v0 v0))", false, true);
        compare("(fun c " + Notation.doubledTenTimes("c") + ")", "(-> v0 v0)", false, false);
        compare("(app (own a b (app a b)) 1)", "(-> v0 v3)", true, true);
    }

    private static void plainTypes() {
        Check.sentence("fits: whether the top term has the top type; meets: a type of both");
        compare("1", "int", true, true);
        compare("1", "truth", false, false);
        compare("true", "truth", true, true);
        compare("true", "int", false, false);
        compare("(pair 1 true)", "(* int truth)", true, true);
        compare("(pair 1 true)", "(* truth int)", false, false);
        compare("(pair 1 true)", "(-> int truth)", false, false);
        compare("(cons 1 nil)", "(list int)", true, true);
        compare("(cons 1 nil)", "(list truth)", false, false);
        compare("(cons 1 nil)", "int", false, false);
    }

    private static void variablesOfTheTerm() {
        Check.sentence("fits, meets: the variables of the term may be replaced");
        compare("nil", "(list int)", true, true);
        compare("nil", "(list (list (-> int truth)))", true, true);
        compare("nil", "int", false, false);
        compare("(fun a a)", "(-> int int)", true, true);
        compare("(fun a a)", "(-> int truth)", false, false);
        compare("(fun a a)", "(-> (list int) (list int))", true, true);
        compare("(fun a a)", "(-> (list int) (list truth))", false, false);
        compare("(fun a (fun b a))", "(-> int (-> truth int))", true, true);
        compare("(fun a (fun b a))", "(-> int (-> truth truth))", false, false);
        compare("(app (own a b (app a b)) 1)", "(* int (list truth))", true, true);
    }

    private static void variablesOfTheType() {
        Check.sentence("fits: the variables of the type stay; meets: they may be replaced");
        compare("1", "v0", false, true);
        compare("nil", "v3", false, true);
        compare("nil", "(list v2)", true, true);
        compare("(fun a a)", "(-> v0 v0)", true, true);
        compare("(fun a a)", "(-> v0 v1)", false, true);
        compare("(fun a (fun b a))", "(-> v1 (-> v0 v1))", true, true);
        compare("(fun a (fun b a))", "(-> v1 (-> v0 v0))", false, true);
        compare("(fun a (fun b a))", "(-> v1 (-> v1 v1))", true, true);
        compare("(fun a (add a 1))", "(-> v0 int)", false, true);
        compare("(fun a (add a 1))", "(-> v0 truth)", false, false);
        compare("(fun a nil)", "(-> v0 (list v0))", true, true);
        compare("(fun a nil)", "(-> v0 v0)", false, true);
        compare("(app (own a b (app a b)) 1)", "v0", true, true);
        compare("(fun a (fst a))", "(-> (* v0 v1) v0)", true, true);
        compare("(fun a (fst a))", "(-> v0 v1)", false, true);
        compare("(fun a (fst a))", "(-> (* v0 v1) v1)", false, true);
        compare("(fun a (fst a))", "(-> (* int truth) truth)", false, false);
    }

    /** The same variable means the same type everywhere in the type. */
    private static void sameVariables() {
        Check.sentence("instances: the same variables are replaced by the same types");
        compare("(pair 1 true)", "(* v0 v0)", false, false);
        compare("(pair 1 true)", "(* v0 v1)", false, true);
        compare("(pair 1 2)", "(* v0 v0)", false, true);
        compare("(pair nil nil)", "(* v0 v0)", false, true);
        compare("(pair nil (cons 1 nil))", "(* v0 v0)", false, true);
        compare("(pair nil (cons 1 nil))", "(* (list v0) (list v0))", false, true);
        compare("(pair nil 1)", "(* v0 v0)", false, false);
        compare("(fun a (fun b (pair a b)))", "(-> v2 (-> v2 (* v2 v2)))", true, true);
        compare("(fun a (pair a a))", "(-> v0 (* v1 v2))", false, true);
        compare("(fun a (pair a a))", "(-> v0 (* int truth))", false, false);
        compare("(fun a (pair a a))", "(-> (list v0) (* (list v0) (list v0)))", true, true);
        compare("(fun a (pair a a))", "(-> (list v0) (* (list v0) (list v1)))", false, true);
        compare("(fun a (pair a a))", "(-> (list v0) (* (list v0) v0))", false, false);
    }

    /** A variable of the term is never the one of the same number in the type. */
    private static void variablesAreDifferentOnes() {
        Check.sentence("meets: variables of both being different ones");
        compare("(fun a (fun b b))", "(-> (list v0) (-> v0 v0))", true, true);
        compare("(fun a a)", "(-> (list v0) (list v0))", true, true);
        compare("nil", "(list (list v0))", true, true);
        compare("(fun a (cons a nil))", "(-> (list v0) v1)", false, true);
        compare("(fun a (fun b a))", "(-> v1 (-> v2 v1))", true, true);
        compare("(fun a (pair a nil))", "(-> (list v0) (* v1 (list v0)))", false, true);
    }

    private static void partsOfThemselves() {
        Check.sentence("no type is a part of itself");
        compare("(fun a a)", "(-> v0 (list v0))", false, false);
        compare("(fun a a)", "(-> v0 (* v0 int))", false, false);
        compare("(fun a (cons a nil))", "(-> v0 v0)", false, false);
        compare("(fun a (pair a nil))", "(-> v0 (* (list v0) v1))", false, false);
        compare("(fun a (fun b (pair a b)))", "(-> v0 (-> (list v0) (* v1 v1)))", false, false);
        compare("(fun a (fun b (cons a (cons b nil))))", "(-> v0 (-> (list v0) v1))", false, false);
    }

    private static void theTopsAlone() {
        Check.sentence("fits, meets: the top term and the top type");
        TypedTerms x = Notation.of("true");
        x.leaf(0, 1);
        Notation.type(x, "truth");
        Check.due("the term below is not asked", x.fits(), false);
        Check.due("nor met", x.meets(), false);
        x.type(0, 0);
        Check.due("the upper term has the upper type", x.fits(), true);
        x.drop();
        Check.due("the lower term has not", x.fits(), false);
    }

    private static void typesAfterUntype() {
        Check.sentence("untype: what was made before is gone");
        TypedTerms x = Notation.of("(fun a (pair a a))");
        Notation.type(x, "(-> (list v0) (* (list v0) (list v0)))");
        Check.due("before untype", x.fits(), true);
        x.untype();
        Check.due("after untype", x.fits(), false);
        Check.due("meets after untype", x.meets(), false);
        Notation.type(x, "(-> int (* int truth))");
        Check.due("another type", x.fits(), false);
        Check.due("meets another type", x.meets(), false);
        x.untype();
        Notation.type(x, "(-> v3 (* v3 v3))");
        Check.due("a third", x.fits(), true);
    }
}
