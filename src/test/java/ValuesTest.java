/** Promises 17 to 20: values, their items, and the steps taken. */
public final class ValuesTest {
    private ValuesTest() {
    }

    public static void main(String[] args) {
        plainValues();
        arithmetic();
        functionsKeepNames();
        bindsAndChoices();
        lists();
        recursion();
        illTerms();
        itemEdges();
        itemLimit();
        sharedValues();
        stepLimit();
        stepsOfEachKind();
        Check.end();
    }

    private static void is(String term, String items, int steps) {
        TypedTerms x = Notation.of(term);
        Check.due(term + " is", Notation.valueOf(x), items);
        Check.due(term + " steps", x.steps(), steps);
    }

    private static void plainValues() {
        is("-7", "0:-7", 0);
        is("true", "1:1", 0);
        is("false", "1:0", 0);
        is("nil", "4:0", 0);
        is("(fun a a)", "2:0", 1);
        is("(own a b (app a b))", "2:0", 1);
        is("(pair 1 false)", "3:0 0:1 1:0", 1);
        is("(pair (pair 1 2) (pair 3 4))", "3:0 3:0 0:1 0:2 3:0 0:3 0:4", 3);
        is("(cons 1 (cons 2 (cons 3 nil)))", "4:3 0:1 0:2 0:3", 3);
        is("(cons nil (cons (cons 5 nil) nil))", "4:2 4:0 4:1 0:5", 3);
        is("(cons (fun a a) nil)", "4:1 2:0", 2);
        is("(pair (cons (pair 1 true) nil) (fun a 1))", "3:0 4:1 3:0 0:1 1:1 2:0", 4);
    }

    private static void arithmetic() {
        is("(add 99 -98)", "0:1", 0);
        is("(sub -99 99)", "0:-198", 0);
        is("(mul -9 9)", "0:-81", 0);
        is("(less 1 2)", "1:1", 0);
        is("(less 2 2)", "1:0", 0);
        is("(less 3 2)", "1:0", 0);
        is("(less -3 2)", "1:1", 0);
        is("(equal 2 2)", "1:1", 0);
        is("(equal 2 3)", "1:0", 0);
        is("(equal -2 2)", "1:0", 0);
        // Products and sums that do not go into an int.
        is("(let c (fun a (mul a a)) (app c (app c 64)))", "0:16777216", 3);
        is("(let c (fun a (mul a a)) (app c (app c (app c 64))))", "0:0", 4);
        int eighth = 99 * 99 * 99 * 99 * 99 * 99 * 99 * 99;
        is("(let c (fun a (mul a a)) (app c (app c (app c 99))))", "0:" + eighth, 4);
        int sixth = 50 * 50 * 50 * 50 * 50 * 50;
        is("(let c (mul 50 (mul 50 50)) (mul c c))", "0:" + sixth, 0);
        is("(let c (mul 64 (mul 64 (mul 64 (mul 64 64)))) (add c c))", "0:" + (1 << 31), 0);
        is("(let c (mul 64 (mul 64 (mul 64 (mul 64 64)))) (sub (sub (sub 0 c) c) 1))",
                "0:" + Integer.MAX_VALUE, 0);
        is("(let c (mul 64 (mul 64 (mul 64 (mul 64 64)))) (less (add c c) 0))", "1:1", 0);
    }

    private static void functionsKeepNames() {
        is("(app (app (fun a (fun b (sub a b))) 9) 4)", "0:5", 4);
        is("(let a 1 (let f (fun b (add a b)) (let a 50 (app f a))))", "0:51", 2);
        is("(app (fun a (app (fun a (add a 1)) (mul a 2))) 5)", "0:11", 4);
        is("(let c (fun a (fun b a)) (let d (app c 3) (let e (app c 4) (pair (app d 0) (app e 0)))))",
                "3:0 0:3 0:4", 8);
        is("(fst (app (fun a (pair a a)) 3))", "0:3", 3);
    }

    private static void bindsAndChoices() {
        is("(let a 5 (let a (add a 1) a))", "0:6", 0);
        is("(let a (pair 1 2) 7)", "0:7", 1);
        is("(if (less 1 2) (pair 1 2) (pair (fst (pair 3 4)) 5))", "3:0 0:1 0:2", 1);
        is("(if (less 2 1) (pair 1 2) (pair (fst (pair 3 4)) 5))", "3:0 0:3 0:5", 2);
        // What is not chosen is not worked out.
        is("(if true 1 (app (own a b (app a b)) 1))", "0:1", 0);
        is("(if false (app (own a b (app a b)) 1) 2)", "0:2", 0);
        is("(split a b nil 3 (app (own a b (app a b)) 1))", "0:3", 0);
        is("(split a b (cons 1 nil) (app (own a b (app a b)) 1) 4)", "0:4", 1);
    }

    private static void lists() {
        is("(split a b (cons 7 (cons 8 nil)) 0 a)", "0:7", 2);
        is("(split a b (cons 7 (cons 8 nil)) nil b)", "4:1 0:8", 2);
        is("(split b a (cons 7 nil) nil a)", "4:0", 1);
        is("(let a 3 (split a b nil a a))", "0:3", 0);
        is("(let a 3 (split a b (cons 4 nil) a a))", "0:4", 1);
    }

    private static void recursion() {
        String factorial = "(own f a (if (less a 1) 1 (mul a (app f (sub a 1)))))";
        is("(app " + factorial + " 5)", "0:120", 7);
        int product = 1;
        for (int i = 1; i <= 17; i++) {
            product *= i;
        }
        is("(app " + factorial + " 17)", "0:" + product, 19);
        is("(app (own f a (split b c a 0 (add b (app f c)))) (cons 4 (cons 5 (cons 6 nil))))",
                "0:15", 8);
        is("(app (own f a (if (equal a 0) nil (cons a (app f (sub a 1))))) 3)", "4:3 0:3 0:2 0:1", 8);
        is("(app (own a a (add a 1)) 4)", "0:5", 2);
    }

    private static void illTerms() {
        String[] terms = {"a", "(add 1 true)", "(app 1 2)", "(fun a (app a a))", "(if true 1 nil)"};
        for (String term : terms) {
            TypedTerms x = Notation.of(term);
            Check.due(term + " items", x.items(), TypedTerms.ILL);
            Check.due(term + " kind", x.kind(0), TypedTerms.ILL);
            Check.due(term + " kind -1", x.kind(-1), TypedTerms.ILL);
            Check.due(term + " number", x.number(0), 0);
            Check.due(term + " steps", x.steps(), TypedTerms.ILL);
        }
    }

    private static void itemEdges() {
        TypedTerms x = Notation.of("(pair 6 (cons 7 nil))");
        Check.due("items", x.items(), 4);
        int[] none = {4, 5, -1, 200, Integer.MAX_VALUE, Integer.MIN_VALUE};
        for (int i : none) {
            Check.due("kind " + i, x.kind(i), TypedTerms.NONE);
            Check.due("number " + i, x.number(i), 0);
        }
        Check.due("kind 3", x.kind(3), 0);
        Check.due("number 3", x.number(3), 7);
        Check.due("kind 2", x.kind(2), 4);
        Check.due("number 2", x.number(2), 1);
    }

    private static String listOf(int length, String element) {
        return "(app (own f a (if (less a 1) nil (cons " + element + " (app f (sub a 1))))) "
                + length + ")";
    }

    private static void itemLimit() {
        TypedTerms x = Notation.of(listOf(98, "a"));
        Check.due("items of 98", x.items(), 99);
        Check.due("steps of 98", x.steps(), 1 + 99 + 98);
        Check.due("last number", x.number(98), 1);
        Check.due("first number", x.number(1), 98);
        TypedTerms y = Notation.of(listOf(99, "a"));
        Check.due("items of 99", y.items(), 100);
        Check.due("steps of 99", y.steps(), 200);
        Check.due("kind of 99", y.kind(0), 4);
        for (int size = 196; size <= 204; size++) {
            exactly(size);
        }
    }

    /** A pair of a list of three lists of 60 elements, 1 + 3 * 61 items, and a list of some more. */
    private static void exactly(int size) {
        int more = size - 1 - 184 - 1;
        TypedTerms x = Notation.of("(let g (own f a (if (less a 1) nil (cons 7 (app f (sub a 1)))))"
                + " (let b (app g 60) (pair (cons b (cons b (cons b nil))) (app g " + more + "))))");
        Check.due("steps for " + size, x.steps(), 1 + 121 + 3 + 2 * more + 1 + 1);
        Check.due("items " + size, x.items(), size <= 200 ? size : TypedTerms.LONG);
        Check.due("last kind of " + size, x.kind(size - 1), size <= 200 ? 0 : TypedTerms.LONG);
        Check.due("last number of " + size, x.number(size - 1), size <= 200 ? 7 : 0);
        Check.due("list in " + size, x.number(185), size <= 200 ? more : 0);
        Check.due("kind beyond " + size, x.kind(size),
                size <= 200 ? TypedTerms.NONE : TypedTerms.LONG);
        Check.due("kind -1 of " + size, x.kind(-1), size <= 200 ? TypedTerms.NONE : TypedTerms.LONG);
    }

    private static void sharedValues() {
        TypedTerms y = Notation.of(Notation.doubling(Notation.doubled(6, "1")));
        Check.due("127 items", y.items(), 127);
        Check.due("13 steps", y.steps(), 13);
        TypedTerms z = Notation.of(Notation.doubledTenTimes("1"));
        Check.due("2047 items", z.items(), TypedTerms.LONG);
        Check.due("kind of them", z.kind(0), TypedTerms.LONG);
        Check.due("number of them", z.number(0), 0);
        Check.due("their steps", z.steps(), 24);
        // Too many items for a call to visit each.
        TypedTerms far = Notation.of(Notation.doubling("(let e (fun b " + Notation.doubled(5, "b")
                + ") (let c (fun b (app e (app e (app e b)))) (app c (app c 1))))"));
        Check.due("2 to the 31 items", far.items(), TypedTerms.LONG);
        Check.due("steps of 2 to the 31", far.steps(), 3 + 2 + 6 + 30 + 30);
        TypedTerms lists = Notation.of("(let b " + listOf(30, "a") + " (let c " + listOf(30, "b")
                + " (cons c (cons c (cons c nil)))))");
        Check.due("a list of lists of lists", lists.items(), TypedTerms.LONG);
    }

    private static void stepLimit() {
        TypedTerms x = Notation.of("(app (own a b (app a b)) 1)");
        Check.due("endless items", x.items(), TypedTerms.TIRED);
        Check.due("endless kind", x.kind(0), TypedTerms.TIRED);
        Check.due("endless kind -1", x.kind(-1), TypedTerms.TIRED);
        Check.due("endless number", x.number(0), 0);
        Check.due("endless steps", x.steps(), 200);
        // 1 step for the function, and one for each call of n + 1.
        String count = "(app (own f a (if (less a 1) a (app f (sub a 1)))) (add 99 ";
        is(count + "98))", "0:0", 199);
        is(count + "99))", "0:0", 200);
        TypedTerms y = Notation.of("(app (own f a (if (less a 1) a (app f (sub a 1)))) (add 99 (add 99 1)))");
        Check.due("201 steps", y.items(), TypedTerms.TIRED);
        Check.due("steps of 201", y.steps(), 200);
        // The last step of all may be any kind of step.
        TypedTerms pair = Notation.of("(pair 0 " + count + "99)))");
        Check.due("a pair as step 201", pair.items(), TypedTerms.TIRED);
        Check.due("steps with the pair", pair.steps(), 200);
        is("(pair 0 " + count + "98)))", "3:0 0:0 0:0", 200);
        is("(cons " + count + "98)) nil)", "4:1 0:0", 200);
        TypedTerms cons = Notation.of("(cons " + count + "99)) nil)");
        Check.due("a cons as step 201", cons.items(), TypedTerms.TIRED);
        is("(let a " + count + "98)) (fun b b))", "2:0", 200);
        TypedTerms function = Notation.of("(let a " + count + "99)) (fun b b))");
        Check.due("a function as step 201", function.items(), TypedTerms.TIRED);
        TypedTerms own = Notation.of("(let a " + count + "99)) (own c b b))");
        Check.due("an own as step 201", own.items(), TypedTerms.TIRED);
        is("(let a " + count + "99)) (add a 3))", "0:3", 200);
        is("(let a " + count + "99)) (split b c (if true nil nil) (less a 1) false))", "1:1", 200);
        // A tired run of one term says nothing about the next.
        x.drop();
        x.leaf(0, 4);
        Check.due("after a tired run", x.items(), 1);
        Check.due("steps after it", x.steps(), 0);
    }

    private static void stepsOfEachKind() {
        is("(fst (pair 1 2))", "0:1", 1);
        is("(snd (pair 1 2))", "0:2", 1);
        is("(let a 1 a)", "0:1", 0);
        is("(if true 1 2)", "0:1", 0);
        is("(split a b nil 1 2)", "0:1", 0);
        is("(app (fun a a) 1)", "0:1", 2);
        is("(app (own a b b) 1)", "0:1", 2);
        is("(app (app (fun a a) (fun b b)) (pair 1 2))", "3:0 0:1 0:2", 5);
    }
}
