/** Promises 1 to 8: a new object, and the stack of terms. */
public final class TermStackTest {
    private static final int FAR = Integer.MAX_VALUE;
    private static final int LOW = Integer.MIN_VALUE;

    private TermStackTest() {
    }

    public static void main(String[] args) {
        newObject();
        leafRanges();
        leafLimits();
        oneRanges();
        oneMakes();
        twoRanges();
        twoMakes();
        bindLimit();
        threeRanges();
        threeMakes();
        fullBeforeTooFew();
        dropAndClear();
        refusedCallsCountNothing();
        Check.end();
    }

    private static void newObject() {
        TypedTerms x = new TypedTerms();
        Check.due("new depth", x.depth(), 0);
        Check.due("new typed", x.typed(), 0);
        Check.due("new drop", x.drop(), TypedTerms.TOO_FEW);
        Check.due("new untype", x.untype(), 0);
        Check.due("new typeSize", x.typeSize(), TypedTerms.ILL);
        Check.due("new steps", x.steps(), TypedTerms.ILL);
        TypedTerms other = new TypedTerms();
        x.leaf(0, 1);
        x.type(0, 0);
        Check.due("another object's depth", other.depth(), 0);
        Check.due("another object's untype", other.untype(), 0);
        Check.due("constants", "" + TypedTerms.BAD_ARG + TypedTerms.FULL + TypedTerms.TOO_FEW
                + TypedTerms.NONE + TypedTerms.ILL + TypedTerms.LONG + TypedTerms.TIRED,
                "-1-2-3-4-5-6-7");
    }

    private static void leafRanges() {
        int[][] bad = {{-1, 0}, {4, 0}, {FAR, 0}, {LOW, 0}, {0, 100}, {0, -100}, {0, FAR}, {0, LOW},
            {1, -1}, {1, 2}, {1, LOW}, {2, -1}, {2, 8}, {2, FAR}};
        TypedTerms x = new TypedTerms();
        for (int[] b : bad) {
            Check.due("leaf " + b[0] + " " + b[1], x.leaf(b[0], b[1]), TypedTerms.BAD_ARG);
        }
        Check.due("depth after bad leaves", x.depth(), 0);
        int[][] good = {{0, -99}, {0, 99}, {1, 0}, {1, 1}, {2, 0}, {2, 7}, {3, FAR}, {3, LOW}};
        for (int i = 0; i < good.length; i++) {
            Check.due("leaf " + good[i][0] + " " + good[i][1], x.leaf(good[i][0], good[i][1]), i + 1);
        }
        Check.due("number 99", Notation.valueOf(Notation.of("99")), "0:99");
        Check.due("number -99", Notation.valueOf(Notation.of("-99")), "0:-99");
        Check.due("true", Notation.valueOf(Notation.of("true")), "1:1");
        Check.due("false", Notation.valueOf(Notation.of("false")), "1:0");
        Check.due("nil", Notation.valueOf(Notation.of("nil")), "4:0");
    }

    private static void leafLimits() {
        TypedTerms x = new TypedTerms();
        for (int i = 1; i <= 8; i++) {
            Check.due("leaf " + i, x.leaf(0, i), i);
        }
        Check.due("ninth leaf", x.leaf(0, 9), TypedTerms.FULL);
        Check.due("bad ninth leaf", x.leaf(0, 100), TypedTerms.BAD_ARG);
        Check.due("depth 8", x.depth(), 8);
        Check.due("top after a refused leaf", x.number(0), 8);
        Check.due("one on a full stack", x.one(0, 0), 8);
        Check.due("two on a full stack", x.two(1, 0), 7);
        TypedTerms y = new TypedTerms();
        make(y, 40);
        Check.due("the 41st leaf", y.leaf(0, 1), TypedTerms.FULL);
        Check.due("the 41st leaf, bad", y.leaf(5, 1), TypedTerms.BAD_ARG);
    }

    /** Makes leaves and drops them: made terms count although they are gone. */
    private static void make(TypedTerms x, int terms) {
        for (int i = 0; i < terms; i++) {
            Check.due("leaf " + i + " of " + terms, x.leaf(3, 0), 1);
            Check.due("its drop", x.drop(), 0);
        }
    }

    private static void oneRanges() {
        int[][] bad = {{-1, 0}, {4, 0}, {FAR, 0}, {LOW, 0}, {0, -1}, {0, 8}, {1, -1}, {1, 64},
            {1, FAR}, {1, LOW}};
        TypedTerms x = new TypedTerms();
        for (int[] b : bad) {
            Check.due("one " + b[0] + " " + b[1], x.one(b[0], b[1]), TypedTerms.BAD_ARG);
        }
        for (int kind = 0; kind < 4; kind++) {
            Check.due("one without a top " + kind, x.one(kind, 0), TypedTerms.TOO_FEW);
        }
        x.leaf(0, 1);
        int[][] good = {{0, 0}, {0, 7}, {1, 0}, {1, 63}, {2, FAR}, {2, LOW}, {3, -1}};
        for (int[] g : good) {
            Check.due("one " + g[0] + " " + g[1], x.one(g[0], g[1]), 1);
        }
    }

    private static void oneMakes() {
        Check.due("fun h", Notation.typeOf(Notation.of("(fun h h)")), "2 10 10");
        Check.due("fun a with h", Notation.typeOf(Notation.of("(fun a h)")), "ILL");
        // k = 8 f + x: the first name is the function's, the second the argument's.
        TypedTerms x = new TypedTerms();
        Notation.term(x, "(app c (add d 1))");
        Check.due("own c d", x.one(1, 8 * 2 + 3), 1);
        Check.due("own c d has", Notation.typeOf(x), "2 0 10");
        TypedTerms y = new TypedTerms();
        Notation.term(y, "(app c (add d 1))");
        Check.due("own d c", y.one(1, 8 * 3 + 2), 1);
        Check.due("own d c has", Notation.typeOf(y), "ILL");
        Check.due("first", Notation.valueOf(Notation.of("(fst (pair 1 2))")), "0:1");
        Check.due("second", Notation.valueOf(Notation.of("(snd (pair 1 2))")), "0:2");
        TypedTerms z = new TypedTerms();
        z.leaf(0, 5);
        z.leaf(0, 6);
        Check.due("one takes the top alone", z.one(0, 0), 2);
        z.drop();
        Check.due("what was below", z.number(0), 5);
    }

    private static void twoRanges() {
        int[][] bad = {{-1, 0}, {9, 0}, {FAR, 0}, {LOW, 0}, {8, -1}, {8, 8}, {8, FAR}, {8, LOW}};
        TypedTerms x = new TypedTerms();
        for (int[] b : bad) {
            Check.due("two " + b[0] + " " + b[1], x.two(b[0], b[1]), TypedTerms.BAD_ARG);
        }
        for (int kind = 0; kind <= 8; kind++) {
            Check.due("two on nothing " + kind, x.two(kind, 0), TypedTerms.TOO_FEW);
        }
        x.leaf(0, 1);
        for (int kind = 0; kind <= 8; kind++) {
            Check.due("two on one " + kind, x.two(kind, 7), TypedTerms.TOO_FEW);
        }
        for (int kind = 0; kind < 8; kind++) {
            x.leaf(0, 1);
            Check.due("two with a far k " + kind, x.two(kind, kind % 2 == 0 ? FAR : LOW), 1);
        }
        x.leaf(0, 1);
        Check.due("bind 7", x.two(8, 7), 1);
    }

    private static void twoMakes() {
        Check.due("apply", Notation.valueOf(Notation.of("(app (fun a (sub a 1)) 7)")), "0:6");
        Check.due("pair", Notation.valueOf(Notation.of("(pair 7 true)")), "3:0 0:7 1:1");
        Check.due("cons", Notation.valueOf(Notation.of("(cons 7 nil)")), "4:1 0:7");
        Check.due("add", Notation.valueOf(Notation.of("(add 7 2)")), "0:9");
        Check.due("sub", Notation.valueOf(Notation.of("(sub 7 2)")), "0:5");
        Check.due("mul", Notation.valueOf(Notation.of("(mul 7 2)")), "0:14");
        Check.due("less", Notation.valueOf(Notation.of("(less 7 2)")), "1:0");
        Check.due("equal", Notation.valueOf(Notation.of("(equal 7 2)")), "1:0");
        Check.due("bind", Notation.valueOf(Notation.of("(let f 7 (sub f 2))")), "0:5");
    }

    private static void bindLimit() {
        TypedTerms x = new TypedTerms();
        x.leaf(0, 1);
        for (int i = 1; i <= 3; i++) {
            x.leaf(0, 2);
            Check.due("bind " + i, x.two(8, 0), 1);
        }
        Check.due("bind 4 with too few", x.two(8, 0), TypedTerms.FULL);
        Check.due("bind 4 with a bad k", x.two(8, 8), TypedTerms.BAD_ARG);
        x.leaf(0, 3);
        Check.due("bind 4", x.two(8, 0), TypedTerms.FULL);
        Check.due("depth after it", x.depth(), 2);
        Check.due("another two", x.two(3, 0), 1);
        x.drop();
        x.leaf(0, 1);
        x.leaf(0, 1);
        Check.due("dropped binds count", x.two(8, 0), TypedTerms.FULL);
        x.clear();
        x.leaf(0, 1);
        x.leaf(0, 1);
        Check.due("bind after clear", x.two(8, 0), 1);
        Check.due("a bind that is refused", x.two(8, 0), TypedTerms.TOO_FEW);
        Check.due("and another", x.two(8, 9), TypedTerms.BAD_ARG);
        for (int i = 2; i <= 3; i++) {
            x.leaf(0, 1);
            Check.due("refused binds don't count " + i, x.two(8, 0), 1);
        }
    }

    private static void threeRanges() {
        TypedTerms x = new TypedTerms();
        int[][] bad = {{-1, 0}, {2, 0}, {FAR, 1}, {LOW, 1}, {1, -1}, {1, 64}, {1, FAR}, {1, LOW},
            {1, 0}, {1, 9}, {1, 18}, {1, 27}, {1, 36}, {1, 45}, {1, 54}, {1, 63}};
        for (int[] b : bad) {
            Check.due("three " + b[0] + " " + b[1], x.three(b[0], b[1]), TypedTerms.BAD_ARG);
        }
        for (int held = 0; held < 3; held++) {
            Check.due("choose of " + held, x.three(0, FAR), TypedTerms.TOO_FEW);
            Check.due("split of " + held, x.three(1, 1), TypedTerms.TOO_FEW);
            x.leaf(0, 1);
        }
        Check.due("choose with a far k", x.three(0, LOW), 1);
        x.leaf(0, 1);
        x.leaf(0, 1);
        Check.due("split 0 1", x.three(1, 1), 1);
        x.leaf(0, 1);
        x.leaf(0, 1);
        Check.due("split 7 6", x.three(1, 62), 1);
    }

    private static void threeMakes() {
        Check.due("choose true", Notation.valueOf(Notation.of("(if true 1 2)")), "0:1");
        Check.due("choose false", Notation.valueOf(Notation.of("(if false 1 2)")), "0:2");
        // k = 8 h + t: the first name is the element's, the second the list's.
        TypedTerms x = new TypedTerms();
        Notation.term(x, "(cons 4 (cons 5 nil))");
        Notation.term(x, "(pair 0 nil)");
        Notation.term(x, "(pair c f)");
        Check.due("split c f", x.three(1, 8 * 2 + 5), 1);
        Check.due("split c f is", Notation.valueOf(x), "3:0 0:4 4:1 0:5");
        TypedTerms y = new TypedTerms();
        y.leaf(0, 9);
        Notation.term(y, "(split a b nil 3 a)");
        Check.due("split takes three", y.depth(), 2);
        Check.due("split of empty", Notation.valueOf(y), "0:3");
    }

    private static void fullBeforeTooFew() {
        TypedTerms x = new TypedTerms();
        make(x, 40);
        Check.due("one at 40", x.one(0, 0), TypedTerms.FULL);
        Check.due("two at 40", x.two(0, 0), TypedTerms.FULL);
        Check.due("bind at 40", x.two(8, 0), TypedTerms.FULL);
        Check.due("three at 40", x.three(0, 0), TypedTerms.FULL);
        Check.due("bad one at 40", x.one(0, 8), TypedTerms.BAD_ARG);
        Check.due("bad two at 40", x.two(9, 0), TypedTerms.BAD_ARG);
        Check.due("bad three at 40", x.three(1, 0), TypedTerms.BAD_ARG);
        TypedTerms y = new TypedTerms();
        make(y, 36);
        Notation.term(y, "(add 1 2)");
        Check.due("the 40th term", y.one(0, 0), 1);
        Check.due("the 41st by one", y.one(0, 0), TypedTerms.FULL);
        Check.due("the top stays", Notation.typeOf(y), "2 10 0");
        y.clear();
        make(y, 38);
        y.leaf(0, 1);
        y.leaf(0, 2);
        Check.due("the 41st by two", y.two(1, 0), TypedTerms.FULL);
        Check.due("depth after it", y.depth(), 2);
        y.clear();
        make(y, 37);
        y.leaf(1, 1);
        y.leaf(0, 2);
        y.leaf(0, 2);
        Check.due("the 41st by three", y.three(0, 0), TypedTerms.FULL);
        Check.due("depth after that", y.depth(), 3);
    }

    private static void dropAndClear() {
        TypedTerms x = new TypedTerms();
        x.leaf(0, 1);
        x.leaf(0, 2);
        Check.due("drop of two", x.drop(), 1);
        Check.due("what is left", x.number(0), 1);
        Check.due("depth", x.depth(), 1);
        Check.due("drop of one", x.drop(), 0);
        Check.due("drop of none", x.drop(), TypedTerms.TOO_FEW);
        Check.due("depth of none", x.depth(), 0);
        make(x, 38);
        Check.due("no more after 40", x.leaf(0, 1), TypedTerms.FULL);
        x.type(0, 0);
        x.clear();
        Check.due("depth after clear", x.depth(), 0);
        Check.due("leaf after clear", x.leaf(0, 1), 1);
        x.clear();
        Check.due("clear takes all off", x.drop(), TypedTerms.TOO_FEW);
        Check.due("clear leaves the types", x.untype(), 1);
    }

    private static void refusedCallsCountNothing() {
        TypedTerms x = new TypedTerms();
        for (int i = 0; i < 30; i++) {
            x.leaf(0, 100);
            x.one(0, 0);
            x.two(0, 0);
            x.three(0, 0);
        }
        make(x, 40);
        Check.due("the 41st after refused ones", x.leaf(0, 0), TypedTerms.FULL);
    }
}
