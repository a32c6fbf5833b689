/** Promises 11 to 13 and 16: the principal type, and how many terms have one. */
public final class PrincipalTypeTest {
    private PrincipalTypeTest() {
    }

    public static void main(String[] args) {
        leaves();
        functions();
        owns();
        binds();
        bindsUnderFunctions();
        shadowing();
        parts();
        lists();
        arithmetic();
        selfPartsAnywhere();
        symbolEdges();
        longTypes();
        variablesOfLongTypes();
        typedTerms();
        questionsChangeNothing();
        Check.end();
    }

    private static void has(String term, String symbols) {
        Check.due(term + " has", Notation.typeOf(Notation.of(term)), symbols);
    }

    private static void leaves() {
        has("3", "0");
        has("false", "1");
        has("nil", "4 10");
        has("a", "ILL");
        has("h", "ILL");
    }

    private static void functions() {
        has("(fun a a)", "2 10 10");
        has("(fun a b)", "ILL");
        has("(fun a (fun b a))", "2 10 2 11 10");
        has("(fun a (fun b b))", "2 10 2 11 11");
        has("(fun a (fun b (app b a)))", "2 10 2 2 10 11 11");
        has("(fun a (fun b (fun c (app (app a c) (app b c)))))",
                "2 2 10 2 11 12 2 2 10 11 2 10 12");
        has("(app (fun a a) 1)", "0");
        has("(app 1 1)", "ILL");
        has("(app (fun a (add a 1)) true)", "ILL");
        has("(fun a (app a a))", "ILL");
        has("(app (fun a 1) b)", "ILL");
    }

    private static void owns() {
        has("(own a b (app a b))", "2 10 11");
        has("(own a b b)", "2 10 10");
        has("(own a b a)", "ILL");
        has("(own a b (app a (add b 1)))", "2 0 10");
        // Where both names are the same one, there is no name for the function.
        has("(own a a a)", "2 10 10");
        has("(own a a (add a 1))", "2 0 0");
        has("(own a a (app a 1))", "2 2 0 10 10");
        // Its own name is not open inside.
        has("(own a b (snd (pair (app a 1) (app a true))))", "ILL");
        has("(own a b (fst (pair b (pair (app a 1) (app a 2)))))", "2 0 0");
    }

    private static void binds() {
        has("(let a (fun b b) (pair (app a 1) (app a true)))", "3 0 1");
        has("(app (fun a (pair (app a 1) (app a true))) (fun b b))", "ILL");
        has("(let a nil (pair (cons 1 a) (cons true a)))", "3 4 0 4 1");
        has("(let a 1 (let a true a))", "1");
        has("(let a a a)", "ILL");
        has("(let a b 1)", "ILL");
        has("(let a (fun b (app b b)) 1)", "ILL");
        has("(let a (fun b b) (app a a))", "2 10 10");
        // The name is bound in the second part alone.
        has("(let a (fun b (app a b)) 1)", "ILL");
        has("(let a (own a b (app a b)) (pair (app a 1) (app a true)))", "3 10 11");
        has("(pair (let a 1 a) a)", "ILL");
    }

    private static void bindsUnderFunctions() {
        // The argument's variable is not open, that of the bound function is.
        has("(fun a (let b a (pair (app b 1) (app b true))))", "ILL");
        has("(fun a (let b a (pair b b)))", "2 10 3 10 10");
        has("(fun a (let b (fun c a) (pair (app b 1) (app b true))))", "2 10 3 10 10");
        has("(fun a (let b (fun c (pair a c)) (pair (app b 1) (app b true))))",
                "2 10 3 3 10 0 3 10 1");
        has("(fun a (let b (fun c (app a c)) (pair (app b 1) (app b 2))))", "2 2 0 10 3 10 10");
        has("(fun a (let b (fun c (app a c)) (pair (app b 1) (app b true))))", "ILL");
        // A variable that is not open may be replaced later; the scheme follows.
        has("(fun a (let b (fun c a) (pair (app b 1) (add a 1))))", "2 0 3 0 0");
        has("(fun a (let b (pair a nil) (pair (add (fst b) 1) (cons 2 (snd b)))))",
                "2 0 3 0 4 0");
        has("(fun a (let b (pair a nil) (pair (cons a (snd b)) (cons true (snd b)))))",
                "2 10 3 4 10 4 1");
        has("(split a b (cons 1 nil) 0 (let c a (add c 1)))", "0");
        has("(fun d (split a b d nil (let c b (cons a c))))", "2 4 10 4 10");
        has("(own a b (let c a (pair (app c 1) (app c true))))", "ILL");
        has("(fun a (let b (fun c (pair a c)) (let d (app b 1) (let e b (pair d (app e a))))))",
                "2 10 3 3 10 0 3 10 10");
    }

    private static void shadowing() {
        has("(fun a (fun a a))", "2 10 2 11 11");
        has("(fun a (pair (app (fun a (add a 1)) 2) a))", "2 10 3 0 10");
        has("(let a (fun a a) (fun b (app a b)))", "2 10 10");
        has("(fun a (let a (pair a a) a))", "2 10 3 10 10");
        has("(fun a (split a b (cons true nil) a a))", "2 1 1");
        has("(fun b (split a b (cons true nil) b true))", "2 1 1");
        // The hidden argument has an open name's type no more.
        has("(fun a (let b (fun a a) (pair (app b a) (app b 1))))", "2 10 3 10 0");
    }

    private static void parts() {
        has("(fun a (fst a))", "2 3 10 11 10");
        has("(fun a (snd a))", "2 3 10 11 11");
        has("(fst 1)", "ILL");
        has("(snd (cons 1 nil))", "ILL");
        has("(fun a (pair (fst a) (snd a)))", "2 3 10 11 3 10 11");
        has("(fun a (pair (snd a) (fst a)))", "2 3 10 11 3 11 10");
        has("(if true 1 2)", "0");
        has("(if 1 1 2)", "ILL");
        has("(if true 1 true)", "ILL");
        has("(fun a (fun b (fun c (if a b c))))", "2 1 2 10 2 10 10");
    }

    private static void lists() {
        has("(cons 1 nil)", "4 0");
        has("(cons nil nil)", "4 4 10");
        has("(cons 1 (cons true nil))", "ILL");
        has("(cons 1 2)", "ILL");
        has("(fun a (cons a a))", "ILL");
        has("(fun a (fun b (cons a b)))", "2 10 2 4 10 4 10");
        has("(fun a (split b c a b c))", "ILL");
        has("(fun a (split b c a 0 b))", "2 4 0 0");
        has("(fun a (split b c a nil c))", "2 4 10 4 10");
        has("(split a b 1 2 3)", "ILL");
        has("(split a b nil a 1)", "ILL");
        has("(split a b nil 1 true)", "ILL");
        has("(fun a (split b c a a c))", "2 4 10 4 10");
    }

    private static void arithmetic() {
        String[] ints = {"add", "sub", "mul"};
        for (String word : ints) {
            has("(fun a (fun b (" + word + " a b)))", "2 0 2 0 0");
            has("(" + word + " true 1)", "ILL");
            has("(" + word + " 1 true)", "ILL");
        }
        String[] truths = {"less", "equal"};
        for (String word : truths) {
            has("(fun a (fun b (" + word + " a b)))", "2 0 2 0 1");
            has("(" + word + " true true)", "ILL");
            has("(" + word + " 1 nil)", "ILL");
        }
    }

    /** A type that would be part of itself is wrong even where the whole does not show it. */
    private static void selfPartsAnywhere() {
        has("(app (fun a 1) (fun b (app b b)))", "ILL");
        has("(snd (pair (fun a (cons a a)) 1))", "ILL");
        has("(let a (fun b (app b b)) (let c 1 c))", "ILL");
        has("(fun a (fun b (snd (pair (if true a (pair b b)) (if true b (pair a a))))))", "ILL");
        has("(fun a (fun b (if true (pair a b) (pair b (fst a)))))", "ILL");
        has("(own a b (pair 1 (app a b)))", "ILL");
    }

    private static void symbolEdges() {
        TypedTerms x = Notation.of("(fun a 1)");
        Check.due("size", x.typeSize(), 3);
        Check.due("symbol 0", x.symbol(0), 2);
        Check.due("symbol 1", x.symbol(1), 10);
        Check.due("symbol 2", x.symbol(2), 0);
        Check.due("symbol 3", x.symbol(3), TypedTerms.NONE);
        Check.due("symbol -1", x.symbol(-1), TypedTerms.NONE);
        Check.due("symbol far", x.symbol(Integer.MAX_VALUE), TypedTerms.NONE);
        Check.due("symbol low", x.symbol(Integer.MIN_VALUE), TypedTerms.NONE);
        x.leaf(2, 0);
        Check.due("ill symbol 0", x.symbol(0), TypedTerms.ILL);
        Check.due("ill symbol -1", x.symbol(-1), TypedTerms.ILL);
        Check.due("ill variables", x.variables(), TypedTerms.ILL);
        Check.due("ill size", x.typeSize(), TypedTerms.ILL);
        Check.due("variables of nil", Notation.of("nil").variables(), 1);
        Check.due("variables of 1", Notation.of("1").variables(), 0);
        Check.due("variables of K", Notation.of("(fun a (fun b a))").variables(), 2);
    }

    private static void longTypes() {
        TypedTerms full = Notation.of(Notation.doubling(Notation.doubled(6, "1")));
        Check.due("127 symbols", full.typeSize(), 127);
        exactly(199);
        exactly(200);
        exactly(201);
        exactly(202);
        TypedTerms x = Notation.of(Notation.doubledTenTimes("1"));
        Check.due("2047 symbols", x.typeSize(), TypedTerms.LONG);
        Check.due("symbol 0 of a long type", x.symbol(0), TypedTerms.LONG);
        Check.due("symbol -1 of a long type", x.symbol(-1), TypedTerms.LONG);
        Check.due("symbol 5000 of a long type", x.symbol(5000), TypedTerms.LONG);
    }

    /** 1 + 1 + 1 + 63 + 127 = 193 symbols of pairs, one more for a list, two for a function. */
    private static void exactly(int size) {
        boolean odd = size % 2 == 1;
        String term = "(pair " + Notation.doubled(6, "1") + " (pair " + Notation.doubled(5, "1") + " "
                + (odd ? "1" : "(cons 1 nil)") + "))";
        for (int i = odd ? 193 : 194; i < size; i += 2) {
            term = "(fun b " + term + ")";
        }
        TypedTerms x = Notation.of(Notation.doubling(term));
        Check.due("size " + size, x.typeSize(), size <= 200 ? size : TypedTerms.LONG);
        Check.due("last of " + size, x.symbol(size - 1), size <= 200 ? 0 : TypedTerms.LONG);
        Check.due("beyond " + size, x.symbol(size), size <= 200 ? TypedTerms.NONE : TypedTerms.LONG);
    }

    private static void variablesOfLongTypes() {
        TypedTerms x = Notation.of("(fun c " + Notation.doubledTenTimes("c") + ")");
        Check.due("size of 2 to the 10", x.typeSize(), TypedTerms.LONG);
        Check.due("its variables", x.variables(), 1);
        TypedTerms y = Notation.of(Notation.doubledTenTimes("(pair nil nil)"));
        Check.due("variables of a doubled pair", y.variables(), 2);
        // Each use of a bound name has variables of its own: 5 lists, 5 times, 4 times.
        TypedTerms z = Notation.of("(let a (pair nil (pair nil (pair nil (pair nil nil))))"
                + " (let b (pair a (pair a (pair a (pair a a)))) (pair b (pair b (pair b b)))))");
        Check.due("size with 100 variables", z.typeSize(), TypedTerms.LONG);
        Check.due("100 variables", z.variables(), 100);
        // Too many symbols for a call to visit each.
        TypedTerms far = Notation.of(Notation.doubling("(let e (fun b " + Notation.doubled(5, "b") + ")"
                + " (let f (fun b (app e (app e (app e b)))) (fun c (app f (app f (app f c))))))"));
        Check.due("size of 2 to the 45", far.typeSize(), TypedTerms.LONG);
        Check.due("variables of 2 to the 45", far.variables(), 1);
        Notation.type(far, "(-> v0 v1)");
        Check.due("fits 2 to the 45", far.fits(), false);
        Check.due("meets 2 to the 45", far.meets(), true);
        Check.due("steps of it", far.steps(), 4);
    }

    private static void typedTerms() {
        TypedTerms x = new TypedTerms();
        Check.due("typed of none", x.typed(), 0);
        x.leaf(0, 1);
        Check.due("typed of one", x.typed(), 1);
        x.leaf(2, 0);
        Check.due("typed with a name", x.typed(), 1);
        Notation.term(x, "(fun a a)");
        Check.due("typed of three", x.typed(), 2);
        Notation.term(x, "(fun a (app a a))");
        Check.due("typed of four", x.typed(), 2);
        x.drop();
        x.drop();
        Check.due("after two drops", x.typed(), 1);
        x.clear();
        Check.due("after clear", x.typed(), 0);
        Notation.term(x, Notation.doubledTenTimes("1"));
        Notation.term(x, "(app (own a b (app a b)) 1)");
        Check.due("a long one and a tired one count", x.typed(), 2);
    }

    private static void questionsChangeNothing() {
        TypedTerms x = Notation.of("(let a (fun b b) (pair (app a 1) (app a nil)))");
        x.leaf(0, 7);
        Notation.type(x, "(* v0 v1)");
        for (int i = 0; i < 3; i++) {
            Check.due("typed", x.typed(), 2);
            Check.due("fits", x.fits(), false);
            Check.due("meets", x.meets(), false);
            Check.due("items", x.items(), 1);
            Check.due("depth", x.depth(), 2);
        }
        x.drop();
        for (int i = 0; i < 3; i++) {
            Check.due("meets below", x.meets(), true);
            Check.due("fits below", x.fits(), false);
            Check.due("type below", Notation.typeOf(x), "3 0 4 10");
            Check.due("value below", Notation.valueOf(x), "3:0 0:1 4:0");
        }
        Check.due("untype", x.untype(), 1);
    }
}
