/** Promise 21: order and limits. */
public final class OrderAndLimitsTest {
    private static final String ENDLESS = "(app (own a b (app a b)) 1)";

    private OrderAndLimitsTest() {
    }

    public static void main(String[] args) {
        codesBeforeNone();
        longTypeOrLongValue();
        comparisons();
        partsWithoutSteps();
        sameNameForFunctionAndArgument();
        stepOfApply();
        threeArguments();
        numberedFromZero();
        Check.end();
    }

    private static void codesBeforeNone() {
        Check.sentence("symbol and kind: ILL, TIRED and LONG are tested before NONE");
        int[] far = {Made.MIN, -1, 0, 1, 199, 200, 201, Made.MAX};
        TypedTerms none = new TypedTerms();
        TypedTerms ill = Notation.of("(add true 1)");
        TypedTerms tired = Notation.of(ENDLESS);
        TypedTerms longOne = Notation.of(Notation.doubledTenTimes("1"));
        TypedTerms fine = Notation.of("7");
        for (int i : far) {
            Check.due("symbol of none " + i, none.symbol(i), TypedTerms.ILL);
            Check.due("kind of none " + i, none.kind(i), TypedTerms.ILL);
            Check.due("ill symbol " + i, ill.symbol(i), TypedTerms.ILL);
            Check.due("ill kind " + i, ill.kind(i), TypedTerms.ILL);
            Check.due("tired symbol " + i, tired.symbol(i), i == 0 ? 10 : TypedTerms.NONE);
            Check.due("tired kind " + i, tired.kind(i), TypedTerms.TIRED);
            Check.due("long symbol " + i, longOne.symbol(i), TypedTerms.LONG);
            Check.due("long kind " + i, longOne.kind(i), TypedTerms.LONG);
            Check.due("fine symbol " + i, fine.symbol(i), i == 0 ? 0 : TypedTerms.NONE);
            Check.due("fine kind " + i, fine.kind(i), i == 0 ? 0 : TypedTerms.NONE);
        }
    }

    private static void longTypeOrLongValue() {
        Check.sentence("LONG: a type may be long where the value is not, and the other way round");
        TypedTerms shortValue = Notation.of("(fun c " + Notation.doubledTenTimes("c") + ")");
        Check.due("a long type", shortValue.typeSize(), TypedTerms.LONG);
        Check.due("its symbol 0", shortValue.symbol(0), TypedTerms.LONG);
        Check.due("of a short value", Notation.valueOf(shortValue), "2:0");
        Check.due("kind 1 of it", shortValue.kind(1), TypedTerms.NONE);
        TypedTerms longValue = Notation.of("(let b (app (own f a (if (less a 1) nil"
                + " (cons a (app f (sub a 1))))) 70) (cons b (cons b (cons b nil))))");
        Check.due("a short type", Notation.typeOf(longValue), "4 4 0");
        Check.due("symbol 3 of it", longValue.symbol(3), TypedTerms.NONE);
        Check.due("of a long value", longValue.items(), TypedTerms.LONG);
        TypedTerms tired = Notation.of("(fun c " + Notation.doubledTenTimes("c") + ")");
        Notation.term(tired, ENDLESS);
        Check.due("a tired run above a long type", tired.items(), TypedTerms.TIRED);
        Check.due("has a short type", tired.typeSize(), 1);
    }

    private static void comparisons() {
        Check.sentence("less X Y: whether X is less than Y. equal X Y: the same int");
        int[] numbers = {-99, -98, -1, 0, 1, 98, 99};
        for (int a : numbers) {
            for (int b : numbers) {
                String both = a + " " + b;
                Check.due("less " + both, Notation.valueOf(Notation.of("(less " + both + ")")),
                        a < b ? "1:1" : "1:0");
                Check.due("equal " + both, Notation.valueOf(Notation.of("(equal " + both + ")")),
                        a == b ? "1:1" : "1:0");
            }
        }
        String[] others = {"true", "nil", "(fun a a)", "(pair 1 1)"};
        for (String other : others) {
            Check.due("less of " + other, Notation.of("(less 1 " + other + ")").items(),
                    TypedTerms.ILL);
            Check.due("equal of " + other, Notation.of("(equal " + other + " " + other + ")").items(),
                    TypedTerms.ILL);
        }
    }

    private static void partsWithoutSteps() {
        Check.sentence("first X, second X: X, then the part of the pair; no step is taken for that");
        Object[][] cases = {{"(fst (pair 5 6))", "0:5", 1}, {"(snd (pair 5 6))", "0:6", 1},
            {"(fst (fst (pair (pair 5 6) 7)))", "0:5", 2}, {"(snd (fst (pair (pair 5 6) 7)))", "0:6", 2},
            {"(if (fst (pair true 1)) 5 6)", "0:5", 1}, {"(let a (pair 5 6) (snd a))", "0:6", 1},
            {"(split a b (cons 5 nil) 6 a)", "0:5", 1}, {"(add (fst (pair 5 6)) 1)", "0:6", 1}};
        for (Object[] c : cases) {
            TypedTerms x = Notation.of((String) c[0]);
            Check.due(c[0] + " is", Notation.valueOf(x), (String) c[1]);
            Check.due(c[0] + " steps", x.steps(), (Integer) c[2]);
        }
        // All of the pair is worked out, also the part that is not asked for.
        Check.due("an endless second part", Notation.of("(fst (pair 1 " + ENDLESS + "))").items(),
                TypedTerms.TIRED);
    }

    private static void sameNameForFunctionAndArgument() {
        Check.sentence("own f x X: where f and x are the same name, it means the argument");
        TypedTerms x = Notation.of("(app (own c c (add c 1)) 41)");
        Check.due("the argument counts", Notation.valueOf(x), "0:42");
        Check.due("for the type too", Notation.typeOf(x), "0");
        TypedTerms y = Notation.of("(app (own c c (app c 3)) (fun a (mul a a)))");
        Check.due("an argument that is a function", Notation.valueOf(y), "0:9");
        Check.due("its steps", y.steps(), 4);
        TypedTerms z = Notation.of("(let c 7 (pair (app (own c c (add c 1)) 1) c))");
        Check.due("the name around it", Notation.valueOf(z), "3:0 0:2 0:7");
    }

    private static void stepOfApply() {
        Check.sentence("apply F X: F is worked out before X, and the step is taken when both have been");
        // 199 steps are taken before the function is applied; the step is the 200th, the last.
        String count = "(app (own f a (if (less a 1) a (app f (sub a 1)))) (add 99 ";
        TypedTerms last = Notation.of("(app (fun b (add b 7)) " + count + "97)))");
        Check.due("applied with the last step", Notation.valueOf(last), "0:7");
        Check.due("its steps", last.steps(), 200);
        // The function's X would take no step, so only the step of apply can tire the run.
        TypedTerms late = Notation.of("(app (fun b (add b 7)) " + count + "98)))");
        Check.due("applied one step later", late.items(), TypedTerms.TIRED);
        Check.due("steps of that", late.steps(), 200);
        // Both parts are worked out before the step, the argument even if it is not used.
        TypedTerms unused = Notation.of("(app (fun b 7) " + ENDLESS + ")");
        Check.due("an endless argument", unused.items(), TypedTerms.TIRED);
        TypedTerms steps = Notation.of("(app (app (fun a a) (fun b b)) (app (fun c c) 1))");
        Check.due("steps of all parts", steps.steps(), 6);
    }

    private static void threeArguments() {
        Check.sentence("three: kind 1 with a k below 0 or above 63, or with h and t the same name");
        TypedTerms few = new TypedTerms();
        TypedTerms full = Made.terms(40, 3);
        for (int k = -70; k <= 140; k++) {
            boolean fine = k >= 0 && k <= 63 && k / 8 != k % 8;
            Check.due("split " + k, few.three(1, k), fine ? TypedTerms.TOO_FEW : TypedTerms.BAD_ARG);
            Check.due("split " + k + " of 40", full.three(1, k),
                    fine ? TypedTerms.FULL : TypedTerms.BAD_ARG);
        }
        for (int k = -70; k <= 140; k++) {
            Check.due("choose " + k, new TypedTerms().three(0, k), TypedTerms.TOO_FEW);
        }
    }

    private static void numberedFromZero() {
        Check.sentence("symbols and items are numbered from 0");
        TypedTerms x = Notation.of("(pair 5 true)");
        int[] symbols = {TypedTerms.NONE, 3, 0, 1, TypedTerms.NONE};
        int[] kinds = {TypedTerms.NONE, 3, 0, 1, TypedTerms.NONE};
        int[] numbers = {0, 0, 5, 1, 0};
        for (int i = -1; i <= 3; i++) {
            Check.due("symbol " + i, x.symbol(i), symbols[i + 1]);
            Check.due("kind " + i, x.kind(i), kinds[i + 1]);
            Check.due("number " + i, x.number(i), numbers[i + 1]);
        }
    }
}
