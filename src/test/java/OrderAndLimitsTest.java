/** Promise 21: order and limits. */
public final class OrderAndLimitsTest {
    private OrderAndLimitsTest() {
    }

    public static void main(String[] args) {
        codesBeforeNone();
        comparisons();
        sameNameForFunctionAndArgument();
        stepOfApply();
        threeArguments();
        numberedFromZero();
        manyCalls();
        Check.end();
    }

    private static void codesBeforeNone() {
        int[] far = {-1, 0, 199, 200, 201, Integer.MAX_VALUE, Integer.MIN_VALUE};
        TypedTerms none = new TypedTerms();
        TypedTerms ill = Notation.of("(add true 1)");
        TypedTerms tired = Notation.of("(app (own a b (app a b)) 1)");
        String doubled = Notation.doubledTenTimes("1");
        TypedTerms longOne = Notation.of(doubled);
        for (int i : far) {
            Check.due("symbol of none " + i, none.symbol(i), TypedTerms.ILL);
            Check.due("kind of none " + i, none.kind(i), TypedTerms.ILL);
            Check.due("ill symbol " + i, ill.symbol(i), TypedTerms.ILL);
            Check.due("ill kind " + i, ill.kind(i), TypedTerms.ILL);
            Check.due("tired kind " + i, tired.kind(i), TypedTerms.TIRED);
            Check.due("tired number " + i, tired.number(i), 0);
            Check.due("long symbol " + i, longOne.symbol(i), TypedTerms.LONG);
            Check.due("long kind " + i, longOne.kind(i), TypedTerms.LONG);
            Check.due("long number " + i, longOne.number(i), 0);
        }
        // A type may be long where the value is not, and the other way round.
        TypedTerms shortValue = Notation.of("(fun c " + Notation.doubledTenTimes("c") + ")");
        Check.due("a long type", shortValue.typeSize(), TypedTerms.LONG);
        Check.due("of a short value", Notation.valueOf(shortValue), "2:0");
        TypedTerms longValue = Notation.of("(let b (app (own f a (if (less a 1) nil"
                + " (cons a (app f (sub a 1))))) 70) (cons b (cons b (cons b nil))))");
        Check.due("a short type", Notation.typeOf(longValue), "4 4 0");
        Check.due("of a long value", longValue.items(), TypedTerms.LONG);
        // A tired run has no value that could be long.
        TypedTerms both = Notation.of("(pair " + doubled + " (app (own a b (app a b)) 1))");
        Check.due("tired, with a long part", both.items(), TypedTerms.TIRED);
    }

    private static void comparisons() {
        int[] numbers = {-99, -1, 0, 1, 99};
        for (int a : numbers) {
            for (int b : numbers) {
                Check.due(a + " less " + b,
                        Notation.of("(less " + a + " " + b + ")").number(0), a < b ? 1 : 0);
                Check.due(a + " equal " + b,
                        Notation.of("(equal " + a + " " + b + ")").number(0), a == b ? 1 : 0);
            }
        }
    }

    private static void sameNameForFunctionAndArgument() {
        TypedTerms x = Notation.of("(app (own c c (add c 1)) 41)");
        Check.due("the argument counts", Notation.valueOf(x), "0:42");
        Check.due("for the type too", Notation.typeOf(x), "0");
        TypedTerms y = Notation.of("(app (own c c (app c 3)) (fun a (mul a a)))");
        Check.due("an argument that is a function", Notation.valueOf(y), "0:9");
        Check.due("its steps", y.steps(), 4);
    }

    private static void stepOfApply() {
        // 199 steps are taken before the function is applied; the step is the 200th, the last.
        String count = "(app (own f a (if (less a 1) a (app f (sub a 1)))) (add 99 ";
        TypedTerms last = Notation.of("(app (fun b (add b 7)) " + count + "97)))");
        Check.due("applied with the last step", Notation.valueOf(last), "0:7");
        Check.due("its steps", last.steps(), 200);
        TypedTerms late = Notation.of("(app (fun b (add b 7)) " + count + "98)))");
        Check.due("applied one step later", late.items(), TypedTerms.TIRED);
        Check.due("steps of that", late.steps(), 200);
        // Both parts are worked out before the step, the argument even if it is not used.
        TypedTerms unused = Notation.of("(app (fun b 7) (app (own a b (app a b)) 1))");
        Check.due("an endless argument", unused.items(), TypedTerms.TIRED);
        TypedTerms steps = Notation.of("(app (app (fun a a) (fun b b)) (app (fun c c) 1))");
        Check.due("steps of all parts", steps.steps(), 6);
    }

    private static void threeArguments() {
        TypedTerms x = new TypedTerms();
        for (int k = -2; k <= 66; k++) {
            boolean fine = k >= 0 && k <= 63 && k / 8 != k % 8;
            Check.due("split " + k, x.three(1, k), fine ? TypedTerms.TOO_FEW : TypedTerms.BAD_ARG);
            Check.due("choose " + k, x.three(0, k), TypedTerms.TOO_FEW);
        }
    }

    private static void numberedFromZero() {
        TypedTerms x = Notation.of("(pair 5 true)");
        Check.due("symbol 0", x.symbol(0), 3);
        Check.due("symbol 2", x.symbol(2), 1);
        Check.due("kind 0", x.kind(0), 3);
        Check.due("kind 2", x.kind(2), 1);
        Check.due("number 1", x.number(1), 5);
    }

    /** 512 calls on one object, and the answers of the last are as good as those of the first. */
    private static void manyCalls() {
        TypedTerms x = new TypedTerms();
        int calls = 0;
        while (calls + 9 <= 512) {
            x.clear();
            x.leaf(2, 1);
            x.leaf(2, 1);
            x.two(1, 0);
            x.one(0, 1);
            x.leaf(0, calls % 100);
            x.two(0, 0);
            Check.due("number after " + calls, x.number(2), calls % 100);
            Check.due("size after " + calls, x.typeSize(), 3);
            calls += 9;
        }
    }
}
