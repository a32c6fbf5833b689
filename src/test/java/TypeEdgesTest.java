/** Promises 11, 12, 13 and 16 at their bounds: typeSize, symbol, variables and typed. */
public final class TypeEdgesTest {
    private static final String ENDLESS = "(app (own a b (app a b)) 1)";
    private static final String[] ILL_TERMS = {"a", "h", "(fun a b)", "(add 1 true)", "(app 1 1)",
        "(fun a (app a a))", "(let a a 1)", "(if 1 1 1)", "(fst nil)", "(cons 1 1)"};

    private TypeEdgesTest() {
    }

    public static void main(String[] args) {
        sizeOfTheTop();
        illWithoutTerm();
        illTerms();
        aSchemeThereMustBe();
        twoHundredSymbols();
        twoHundredSymbolsWithVariables();
        farTooManySymbols();
        symbolsFromZero();
        numberingOfVariables();
        variableCounts();
        variablesOfLongTypes();
        typedCounts();
        typedOfLongAndTired();
        Check.end();
    }

    private static void sizeOfTheTop() {
        Check.sentence("typeSize: how many symbols the principal type of the top term has");
        TypedTerms x = new TypedTerms();
        String[] terms = {"1", "nil", "(fun a a)", "(cons nil nil)", "(fun a (fun b a))"};
        int[] sizes = {1, 2, 3, 3, 5};
        for (int i = 0; i < terms.length; i++) {
            Notation.term(x, terms[i]);
            Check.due("size of " + terms[i], x.typeSize(), sizes[i]);
        }
        for (int i = terms.length - 1; i >= 0; i--) {
            Check.due("size of " + terms[i] + " again", x.typeSize(), sizes[i]);
            x.drop();
        }
        Check.due("size of none", x.typeSize(), TypedTerms.ILL);
    }

    private static void illOf(String state, TypedTerms x) {
        Check.due("typeSize " + state, x.typeSize(), TypedTerms.ILL);
        int[] places = {Made.MIN, -1, 0, 1, 199, 200, 201, Made.MAX};
        for (int i : places) {
            Check.due("symbol " + i + " " + state, x.symbol(i), TypedTerms.ILL);
        }
        Check.due("variables " + state, x.variables(), TypedTerms.ILL);
        Check.due("fits " + state, x.fits(), false);
        Check.due("meets " + state, x.meets(), false);
    }

    private static void illWithoutTerm() {
        Check.sentence("ILL: the top is not typed (or there is none)");
        TypedTerms x = new TypedTerms();
        illOf("of a new object", x);
        x.type(2, 0);
        illOf("with a type alone", x);
        x.leaf(0, 1);
        x.drop();
        illOf("after drop", x);
        x.leaf(0, 1);
        x.clear();
        illOf("after clear", x);
    }

    private static void illTerms() {
        Check.sentence("ILL: the top is not typed");
        for (String term : ILL_TERMS) {
            TypedTerms x = Notation.of("1");
            Notation.type(x, "v0");
            Notation.term(x, term);
            illOf("of " + term, x);
            Check.due("typed with " + term, x.typed(), 1);
            x.drop();
            Check.due("the typed one below " + term, x.typeSize(), 1);
        }
    }

    private static void aSchemeThereMustBe() {
        Check.sentence("name x: there must be a scheme");
        for (int name = 0; name <= 7; name++) {
            char n = (char) ('a' + name);
            char o = (char) ('a' + (name + 1) % 8);
            illOf("of a name", Notation.of("" + n));
            illOf("of a name after its bind", Notation.of("(pair (let " + n + " 1 " + n + ") " + n
                    + ")"));
            illOf("of a name before its bind", Notation.of("(pair " + n + " (let " + n + " 1 1))"));
            illOf("of a name in what is bound to it", Notation.of("(let " + n + " " + n + " 1)"));
            illOf("of another name", Notation.of("(let " + o + " 1 " + n + ")"));
            Check.due("its scheme", Notation.typeOf(Notation.of("(let " + n + " 1 " + n + ")")), "0");
        }
    }

    /** Pairs with 193 symbols, or 194 with a list among them, and two more for each function. */
    private static String termOf(int size) {
        boolean odd = size % 2 == 1;
        String term = "(pair " + Notation.doubled(6, "1") + " (pair " + Notation.doubled(5, "1") + " "
                + (odd ? "1" : "(cons 1 nil)") + "))";
        for (int i = odd ? 193 : 194; i < size; i += 2) {
            term = "(fun b " + term + ")";
        }
        return Notation.doubling(term);
    }

    private static void twoHundredSymbols() {
        Check.sentence("if it has more than 200 symbols it is LONG");
        for (int size = 195; size <= 205; size++) {
            boolean fine = size <= 200;
            TypedTerms x = Notation.of(termOf(size));
            Check.due("size " + size, x.typeSize(), fine ? size : TypedTerms.LONG);
            Check.due("first of " + size, x.symbol(0), fine ? 2 : TypedTerms.LONG);
            Check.due("last of " + size, x.symbol(size - 1), fine ? 0 : TypedTerms.LONG);
            Check.due("beyond " + size, x.symbol(size), fine ? TypedTerms.NONE : TypedTerms.LONG);
            Check.due("before " + size, x.symbol(-1), fine ? TypedTerms.NONE : TypedTerms.LONG);
            Check.due("typed of " + size, x.typed(), 1);
        }
    }

    /** A pair of pairs of 67 lists, each of a variable of its own: 2 * 67 + 66 symbols. */
    private static String manyVariables(String around) {
        String pairs = "(pair (pair (pair (pair (pair (pair b b) a) a) a) nil) nil)";
        return "(let a (pair nil (pair nil (pair nil (pair nil nil))))"
                + " (let b (pair a (pair a (pair a (pair a a)))) " + around.replace("X", pairs) + "))";
    }

    private static void twoHundredSymbolsWithVariables() {
        Check.sentence("if it has more than 200 symbols it is LONG; variables are numbered 0, 1, ..");
        TypedTerms x = Notation.of(manyVariables("X"));
        Check.due("size", x.typeSize(), 200);
        Check.due("variables", x.variables(), 67);
        int numbered = 0;
        for (int i = 0; i < 200; i++) {
            int symbol = x.symbol(i);
            if (symbol >= 10) {
                Check.due("symbol " + i, symbol, 10 + numbered);
                Check.due("symbol before " + i, x.symbol(i - 1), 4);
                numbered++;
            }
        }
        Check.due("numbered", numbered, 67);
        Check.due("symbol 199", x.symbol(199), 76);
        Check.due("symbol 200", x.symbol(200), TypedTerms.NONE);
        TypedTerms y = Notation.of(manyVariables("(cons X nil)"));
        Check.due("size of a list of it", y.typeSize(), TypedTerms.LONG);
        Check.due("symbol 199 of a list of it", y.symbol(199), TypedTerms.LONG);
        Check.due("variables of a list of it", y.variables(), 67);
    }

    private static void farTooManySymbols() {
        Check.sentence("LONG: the type has more than 200 symbols");
        TypedTerms x = Notation.of(Notation.doubledTenTimes("1"));
        Check.due("2047 symbols", x.typeSize(), TypedTerms.LONG);
        int[] places = {Made.MIN, -1, 0, 199, 200, 201, 2046, 2047, Made.MAX};
        for (int i : places) {
            Check.due("symbol " + i + " of 2047", x.symbol(i), TypedTerms.LONG);
        }
        // Too many symbols for a call to visit each.
        TypedTerms far = Notation.of(Notation.doubling("(let e (fun b " + Notation.doubled(5, "b") + ")"
                + " (let f (fun b (app e (app e (app e b)))) (fun c (app f (app f (app f c))))))"));
        Check.due("size of 2 to the 45", far.typeSize(), TypedTerms.LONG);
        Check.due("variables of 2 to the 45", far.variables(), 1);
        Notation.type(far, "(-> v0 v1)");
        Check.due("fits 2 to the 45", far.fits(), false);
        Check.due("meets 2 to the 45", far.meets(), true);
        Check.due("steps of it", far.steps(), 4);
    }

    private static void symbolsFromZero() {
        Check.sentence("symbol: symbol i of it, numbered from 0; NONE if there is none");
        String[] terms = {"1", "nil", "(fun a 1)", "(fun a (fun b a))"};
        int[][] symbols = {{0}, {4, 10}, {2, 10, 0}, {2, 10, 2, 11, 10}};
        for (int t = 0; t < terms.length; t++) {
            TypedTerms x = Notation.of(terms[t]);
            int size = symbols[t].length;
            for (int i = 0; i < size; i++) {
                Check.due(terms[t] + " symbol " + i, x.symbol(i), symbols[t][i]);
            }
            int[] none = {Made.MIN, Made.MIN + 1, -200, -1, size, size + 1, 199, 200, 201, 256,
                16384, Made.MAX};
            for (int i : none) {
                Check.due(terms[t] + " symbol " + i, x.symbol(i), TypedTerms.NONE);
            }
        }
    }

    private static void numberingOfVariables() {
        Check.sentence("variables are numbered 0, 1, .. in the order in which they come up");
        String[][] cases = {
            {"(fun a (fun b a))", "2 10 2 11 10"}, {"(fun a (fun b b))", "2 10 2 11 11"},
            {"(fun a (pair (snd a) (fst a)))", "2 3 10 11 3 11 10"},
            {"(fun c (fun b (fun a (pair a (pair b c)))))", "2 10 2 11 2 12 3 12 3 11 10"},
            {"(fun a (fun b (fun c (app c (app b a)))))", "2 10 2 2 10 11 2 2 11 12 12"},
            {"(let a nil (pair a (pair a a)))", "3 4 10 3 4 11 4 12"}};
        for (String[] c : cases) {
            Check.due(c[0], Notation.typeOf(Notation.of(c[0])), c[1]);
        }
    }

    private static void variableCounts() {
        Check.sentence("variables: how many different variables it has; ILL");
        Object[][] cases = {{"1", 0}, {"true", 0}, {"(fun a (add a 1))", 0}, {"nil", 1},
            {"(fun a a)", 1}, {"(fun a (pair a (pair a a)))", 1}, {"(fun a (fun b a))", 2},
            {"(pair nil (pair nil nil))", 3}, {ENDLESS, 1}, {"(let a (pair nil nil) 1)", 0}};
        for (Object[] c : cases) {
            Check.due("variables of " + c[0], Notation.of((String) c[0]).variables(), (Integer) c[1]);
        }
        for (String term : ILL_TERMS) {
            Check.due("variables of " + term, Notation.of(term).variables(), TypedTerms.ILL);
        }
    }

    private static void variablesOfLongTypes() {
        Check.sentence("variables: it may be LONG");
        TypedTerms none = Notation.of(termOf(201));
        Check.due("variables of 201 symbols", none.variables(), 4);
        TypedTerms ints = Notation.of(Notation.doubledTenTimes("1"));
        Check.due("variables of 2047 ints and pairs", ints.variables(), 0);
        TypedTerms one = Notation.of("(fun c " + Notation.doubledTenTimes("c") + ")");
        Check.due("size of 2 to the 10", one.typeSize(), TypedTerms.LONG);
        Check.due("its variables", one.variables(), 1);
        TypedTerms two = Notation.of(Notation.doubledTenTimes("(pair nil nil)"));
        Check.due("variables of a doubled pair", two.variables(), 2);
        // Each use of a bound name has variables of its own: 5 lists, 5 times, 4 times.
        TypedTerms many = Notation.of("(let a (pair nil (pair nil (pair nil (pair nil nil))))"
                + " (let b (pair a (pair a (pair a (pair a a)))) (pair b (pair b (pair b b)))))");
        Check.due("size with 100 variables", many.typeSize(), TypedTerms.LONG);
        Check.due("100 variables", many.variables(), 100);
        // As many as 39 terms can have: 5 times 5 times 5 times 5.
        String five = "(pair X (pair X (pair X (pair X X))))";
        TypedTerms most = Notation.of("(let a " + five.replace("X", "nil") + " (let b "
                + five.replace('X', 'a') + " (let c " + five.replace('X', 'b') + " "
                + five.replace('X', 'c') + ")))");
        Check.due("625 variables", most.variables(), 625);
        Check.due("typed with 625", most.typed(), 1);
        Check.due("items of 625 lists", most.items(), TypedTerms.LONG);
        Check.due("steps of 625 lists", most.steps(), 16);
        Notation.type(most, "(* v0 v0)");
        Check.due("meets with 625", most.meets(), false);
        Notation.type(most, "(* v0 (* v0 (* v0 v1)))");
        Check.due("meets with 625, parts alike", most.meets(), true);
        Check.due("fits with 625", most.fits(), false);
    }

    private static void typedCounts() {
        Check.sentence("typed: how many of the terms on the stack of terms are typed");
        TypedTerms x = new TypedTerms();
        TypedTerms y = new TypedTerms();
        for (int held = 0; held <= 8; held++) {
            Check.due("typed of " + held + " numbers", x.typed(), held);
            Check.due("typed of " + held + " names", y.typed(), 0);
            x.leaf(0, 1);
            y.leaf(2, 1);
        }
        for (int left = 7; left >= 0; left--) {
            x.drop();
            Check.due("typed of " + left + " left", x.typed(), left);
        }
        // Each place in turn has the one term that is not typed, and then the one that is.
        for (int place = 0; place < 8; place++) {
            TypedTerms ill = new TypedTerms();
            TypedTerms well = new TypedTerms();
            for (int i = 0; i < 8; i++) {
                ill.leaf(i == place ? 2 : 0, 1);
                well.leaf(i == place ? 0 : 2, 1);
            }
            Check.due("ill at " + place, ill.typed(), 7);
            Check.due("well at " + place, well.typed(), 1);
        }
        x.clear();
        y.clear();
        Check.due("typed after clear", x.typed() + y.typed(), 0);
        TypedTerms parts = Notation.of("(pair 1 2)");
        Check.due("parts are not on the stack", parts.typed(), 1);
    }

    private static void typedOfLongAndTired() {
        Check.sentence("typed: a term with a LONG type or a TIRED run is typed");
        TypedTerms x = Notation.of(Notation.doubledTenTimes("1"));
        Notation.term(x, ENDLESS);
        Check.due("typed", x.typed(), 2);
        Notation.term(x, "a");
        Check.due("typed with a name", x.typed(), 2);
    }
}
