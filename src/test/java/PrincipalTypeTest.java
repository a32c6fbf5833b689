/** Promises 11 and 12: the principal type, rule by rule. */
public final class PrincipalTypeTest {
    private PrincipalTypeTest() {
    }

    public static void main(String[] args) {
        leaves();
        functions();
        owns();
        binds();
        bindsUnderFunctions();
        shadowing();
        parts();
        lists();
        arithmetic();
        selfPartsAnywhere();
        farTypesCompared();
        questionsChangeNothing();
        Check.end();
    }

    private static void has(String term, String symbols) {
        Check.due(term + " has", Notation.typeOf(Notation.of(term)), symbols);
    }

    private static void leaves() {
        has("3", "0");
        has("false", "1");
        has("nil", "4 10");
        has("a", "ILL");
        has("h", "ILL");
    }

    private static void functions() {
        has("(fun a a)", "2 10 10");
        has("(fun a b)", "ILL");
        has("(fun a (fun b a))", "2 10 2 11 10");
        has("(fun a (fun b b))", "2 10 2 11 11");
        has("(fun a (fun b (app b a)))", "2 10 2 2 10 11 11");
        has("(fun a (fun b (fun c (app (app a c) (app b c)))))",
                "2 2 10 2 11 12 2 2 10 11 2 10 12");
        has("(app (fun a a) 1)", "0");
        has("(app 1 1)", "ILL");
        has("(app (fun a (add a 1)) true)", "ILL");
        has("(fun a (app a a))", "ILL");
        has("(app (fun a 1) b)", "ILL");
    }

    private static void owns() {
        has("(own a b (app a b))", "2 10 11");
        has("(own a b b)", "2 10 10");
        has("(own a b a)", "ILL");
        has("(own a b (app a (add b 1)))", "2 0 10");
        // Where both names are the same one, there is no name for the function.
        has("(own a a a)", "2 10 10");
        has("(own a a (add a 1))", "2 0 0");
        has("(own a a (app a 1))", "2 2 0 10 10");
        // Its own name is not open inside.
        has("(own a b (snd (pair (app a 1) (app a true))))", "ILL");
        has("(own a b (fst (pair b (pair (app a 1) (app a 2)))))", "2 0 0");
    }

    private static void binds() {
        has("(let a (fun b b) (pair (app a 1) (app a true)))", "3 0 1");
        has("(app (fun a (pair (app a 1) (app a true))) (fun b b))", "ILL");
        has("(let a nil (pair (cons 1 a) (cons true a)))", "3 4 0 4 1");
        has("(let a 1 (let a true a))", "1");
        has("(let a a a)", "ILL");
        has("(let a b 1)", "ILL");
        has("(let a (fun b (app b b)) 1)", "ILL");
        has("(let a (fun b b) (app a a))", "2 10 10");
        // The name is bound in the second part alone.
        has("(let a (fun b (app a b)) 1)", "ILL");
        has("(let a (own a b (app a b)) (pair (app a 1) (app a true)))", "3 10 11");
        has("(pair (let a 1 a) a)", "ILL");
    }

    private static void bindsUnderFunctions() {
        // The argument's variable is not open, that of the bound function is.
        has("(fun a (let b a (pair (app b 1) (app b true))))", "ILL");
        has("(fun a (let b a (pair b b)))", "2 10 3 10 10");
        has("(fun a (let b (fun c a) (pair (app b 1) (app b true))))", "2 10 3 10 10");
        has("(fun a (let b (fun c (pair a c)) (pair (app b 1) (app b true))))",
                "2 10 3 3 10 0 3 10 1");
        has("(fun a (let b (fun c (app a c)) (pair (app b 1) (app b 2))))", "2 2 0 10 3 10 10");
        has("(fun a (let b (fun c (app a c)) (pair (app b 1) (app b true))))", "ILL");
        // Any name around counts, not the innermost alone.
        has("(fun a (fun c (let b a (pair (app b 1) (app b true)))))", "ILL");
        has("(fun a (fun c (fun d (let b (pair a d) (pair (app (fst b) 1) (app (fst b) true))))))",
                "ILL");
        has("(own a c (let b a (pair (app b 1) (app b true))))", "ILL");
        has("(fun d (split a c d 0 (let b a (snd (pair (app b 1) (app b true))))))", "ILL");
        has("(fun a (let c 1 (let b a (pair (app b 1) (app b true)))))", "ILL");
        has("(fun a (fun c (let b (fun d (pair c d)) (pair (app b 1) (app b true)))))",
                "2 10 2 11 3 3 11 0 3 11 1");
        // A variable that is not open may be replaced later; the scheme follows.
        has("(fun a (let b (fun c a) (pair (app b 1) (add a 1))))", "2 0 3 0 0");
        has("(fun a (let b (pair a nil) (pair (add (fst b) 1) (cons 2 (snd b)))))",
                "2 0 3 0 4 0");
        has("(fun a (let b (pair a nil) (pair (cons a (snd b)) (cons true (snd b)))))",
                "2 10 3 4 10 4 1");
        has("(split a b (cons 1 nil) 0 (let c a (add c 1)))", "0");
        has("(fun d (split a b d nil (let c b (cons a c))))", "2 4 10 4 10");
        has("(own a b (let c a (pair (app c 1) (app c true))))", "ILL");
        has("(fun a (let b (fun c (pair a c)) (let d (app b 1) (let e b (pair d (app e a))))))",
                "2 10 3 3 10 0 3 10 10");
    }

    private static void shadowing() {
        has("(fun a (fun a a))", "2 10 2 11 11");
        has("(fun a (pair (app (fun a (add a 1)) 2) a))", "2 10 3 0 10");
        has("(let a (fun a a) (fun b (app a b)))", "2 10 10");
        has("(fun a (let a (pair a a) a))", "2 10 3 10 10");
        has("(fun a (split a b (cons true nil) a a))", "2 1 1");
        has("(fun b (split a b (cons true nil) b true))", "2 1 1");
        // The hidden argument has an open name's type no more.
        has("(fun a (let b (fun a a) (pair (app b a) (app b 1))))", "2 10 3 10 0");
    }

    private static void parts() {
        has("(fun a (fst a))", "2 3 10 11 10");
        has("(fun a (snd a))", "2 3 10 11 11");
        has("(fst 1)", "ILL");
        has("(snd (cons 1 nil))", "ILL");
        has("(fun a (pair (fst a) (snd a)))", "2 3 10 11 3 10 11");
        has("(fun a (pair (snd a) (fst a)))", "2 3 10 11 3 11 10");
        has("(if true 1 2)", "0");
        has("(if 1 1 2)", "ILL");
        has("(if true 1 true)", "ILL");
        has("(fun a (fun b (fun c (if a b c))))", "2 1 2 10 2 10 10");
    }

    private static void lists() {
        has("(cons 1 nil)", "4 0");
        has("(cons nil nil)", "4 4 10");
        has("(cons 1 (cons true nil))", "ILL");
        has("(cons 1 2)", "ILL");
        has("(fun a (cons a a))", "ILL");
        has("(fun a (fun b (cons a b)))", "2 10 2 4 10 4 10");
        has("(fun a (split b c a b c))", "ILL");
        has("(fun a (split b c a 0 b))", "2 4 0 0");
        has("(fun a (split b c a nil c))", "2 4 10 4 10");
        has("(split a b 1 2 3)", "ILL");
        has("(split a b nil a 1)", "ILL");
        has("(split a b nil 1 true)", "ILL");
        has("(fun a (split b c a a c))", "2 4 10 4 10");
    }

    private static void arithmetic() {
        String[] ints = {"add", "sub", "mul"};
        for (String word : ints) {
            has("(fun a (fun b (" + word + " a b)))", "2 0 2 0 0");
            has("(" + word + " true 1)", "ILL");
            has("(" + word + " 1 true)", "ILL");
        }
        String[] truths = {"less", "equal"};
        for (String word : truths) {
            has("(fun a (fun b (" + word + " a b)))", "2 0 2 0 1");
            has("(" + word + " true true)", "ILL");
            has("(" + word + " 1 nil)", "ILL");
        }
    }

    /** A type that would be part of itself is wrong even where the whole does not show it. */
    private static void selfPartsAnywhere() {
        has("(app (fun a 1) (fun b (app b b)))", "ILL");
        has("(snd (pair (fun a (cons a a)) 1))", "ILL");
        has("(let a (fun b (app b b)) (let c 1 c))", "ILL");
        has("(fun a (fun b (snd (pair (if true a (pair b b)) (if true b (pair a a))))))", "ILL");
        has("(fun a (fun b (if true (pair a b) (pair b (fst a)))))", "ILL");
        has("(own a b (pair 1 (app a b)))", "ILL");
    }

    /** Two types with millions of symbols each, made apart, that differ in the last one. */
    private static void farTypesCompared() {
        String term = Notation.doubling("(let e (fun b " + Notation.doubled(5, "b") + ")"
                + " (let g (fun c (pair (app e (app e (app e (app e 1)))) c)) (if true X Y)))");
        TypedTerms same = Notation.of(term.replace("X", "(app g 1)").replace("Y", "(app g 2)"));
        Check.due("the same far types", same.typeSize(), TypedTerms.LONG);
        TypedTerms other = Notation.of(term.replace("X", "(app g 1)").replace("Y", "(app g true)"));
        Check.due("other far types", other.typeSize(), TypedTerms.ILL);
    }

    private static void questionsChangeNothing() {
        TypedTerms x = Notation.of("(let a (fun b b) (pair (app a 1) (app a nil)))");
        x.leaf(0, 7);
        Notation.type(x, "(* v0 v1)");
        for (int i = 0; i < 3; i++) {
            Check.due("typed", x.typed(), 2);
            Check.due("fits", x.fits(), false);
            Check.due("meets", x.meets(), false);
            Check.due("items", x.items(), 1);
            Check.due("depth", x.depth(), 2);
        }
        x.drop();
        for (int i = 0; i < 3; i++) {
            Check.due("meets below", x.meets(), true);
            Check.due("fits below", x.fits(), false);
            Check.due("type below", Notation.typeOf(x), "3 0 4 10");
            Check.due("value below", Notation.valueOf(x), "3:0 0:1 4:0");
        }
        Check.due("untype", x.untype(), 1);
    }
}
