/** Promises 17 to 20: how terms are worked out, and the steps taken. */
public final class ValuesTest {
    private ValuesTest() {
    }

    public static void main(String[] args) {
        plainValues();
        arithmetic();
        functionsKeepNames();
        bindsAndChoices();
        lists();
        recursion();
        stepsOfEachKind();
        Check.end();
    }

    private static void is(String term, String items, int steps) {
        TypedTerms x = Notation.of(term);
        Check.due(term + " is", Notation.valueOf(x), items);
        Check.due(term + " steps", x.steps(), steps);
    }

    private static void plainValues() {
        is("-7", "0:-7", 0);
        is("true", "1:1", 0);
        is("false", "1:0", 0);
        is("nil", "4:0", 0);
        is("(fun a a)", "2:0", 1);
        is("(own a b (app a b))", "2:0", 1);
        is("(pair 1 false)", "3:0 0:1 1:0", 1);
        is("(pair (pair 1 2) (pair 3 4))", "3:0 3:0 0:1 0:2 3:0 0:3 0:4", 3);
        is("(cons 1 (cons 2 (cons 3 nil)))", "4:3 0:1 0:2 0:3", 3);
        is("(cons nil (cons (cons 5 nil) nil))", "4:2 4:0 4:1 0:5", 3);
        is("(cons (fun a a) nil)", "4:1 2:0", 2);
        is("(pair (cons (pair 1 true) nil) (fun a 1))", "3:0 4:1 3:0 0:1 1:1 2:0", 4);
    }

    private static void arithmetic() {
        is("(add 99 -98)", "0:1", 0);
        is("(sub -99 99)", "0:-198", 0);
        is("(mul -9 9)", "0:-81", 0);
        is("(less 1 2)", "1:1", 0);
        is("(less 2 2)", "1:0", 0);
        is("(less 3 2)", "1:0", 0);
        is("(less -3 2)", "1:1", 0);
        is("(equal 2 2)", "1:1", 0);
        is("(equal 2 3)", "1:0", 0);
        is("(equal -2 2)", "1:0", 0);
        // Products and sums that do not go into an int.
        is("(let c (fun a (mul a a)) (app c (app c 64)))", "0:16777216", 3);
        is("(let c (fun a (mul a a)) (app c (app c (app c 64))))", "0:0", 4);
        int eighth = 99 * 99 * 99 * 99 * 99 * 99 * 99 * 99;
        is("(let c (fun a (mul a a)) (app c (app c (app c 99))))", "0:" + eighth, 4);
        int sixth = 50 * 50 * 50 * 50 * 50 * 50;
        is("(let c (mul 50 (mul 50 50)) (mul c c))", "0:" + sixth, 0);
        is("(let c (mul 64 (mul 64 (mul 64 (mul 64 64)))) (add c c))", "0:" + (1 << 31), 0);
        is("(let c (mul 64 (mul 64 (mul 64 (mul 64 64)))) (sub (sub (sub 0 c) c) 1))",
                "0:" + Integer.MAX_VALUE, 0);
        is("(let c (mul 64 (mul 64 (mul 64 (mul 64 64)))) (less (add c c) 0))", "1:1", 0);
    }

    private static void functionsKeepNames() {
        is("(app (app (fun a (fun b (sub a b))) 9) 4)", "0:5", 4);
        is("(let a 1 (let f (fun b (add a b)) (let a 50 (app f a))))", "0:51", 2);
        is("(app (fun a (app (fun a (add a 1)) (mul a 2))) 5)", "0:11", 4);
        is("(let c (fun a (fun b a)) (let d (app c 3) (let e (app c 4) (pair (app d 0) (app e 0)))))",
                "3:0 0:3 0:4", 8);
        is("(fst (app (fun a (pair a a)) 3))", "0:3", 3);
    }

    private static void bindsAndChoices() {
        is("(let a 5 (let a (add a 1) a))", "0:6", 0);
        is("(let a (pair 1 2) 7)", "0:7", 1);
        is("(if (less 1 2) (pair 1 2) (pair (fst (pair 3 4)) 5))", "3:0 0:1 0:2", 1);
        is("(if (less 2 1) (pair 1 2) (pair (fst (pair 3 4)) 5))", "3:0 0:3 0:5", 2);
        // What is not chosen is not worked out.
        is("(if true 1 (app (own a b (app a b)) 1))", "0:1", 0);
        is("(if false (app (own a b (app a b)) 1) 2)", "0:2", 0);
        is("(split a b nil 3 (app (own a b (app a b)) 1))", "0:3", 0);
        is("(split a b (cons 1 nil) (app (own a b (app a b)) 1) 4)", "0:4", 1);
    }

    private static void lists() {
        is("(split a b (cons 7 (cons 8 nil)) 0 a)", "0:7", 2);
        is("(split a b (cons 7 (cons 8 nil)) nil b)", "4:1 0:8", 2);
        is("(split b a (cons 7 nil) nil a)", "4:0", 1);
        is("(let a 3 (split a b nil a a))", "0:3", 0);
        is("(let a 3 (split a b (cons 4 nil) a a))", "0:4", 1);
    }

    private static void recursion() {
        String factorial = "(own f a (if (less a 1) 1 (mul a (app f (sub a 1)))))";
        is("(app " + factorial + " 5)", "0:120", 7);
        int product = 1;
        for (int i = 1; i <= 17; i++) {
            product *= i;
        }
        is("(app " + factorial + " 17)", "0:" + product, 19);
        is("(app (own f a (split b c a 0 (add b (app f c)))) (cons 4 (cons 5 (cons 6 nil))))",
                "0:15", 8);
        is("(app (own f a (if (equal a 0) nil (cons a (app f (sub a 1))))) 3)", "4:3 0:3 0:2 0:1", 8);
        is("(app (own a a (add a 1)) 4)", "0:5", 2);
    }

    private static void stepsOfEachKind() {
        is("(fst (pair 1 2))", "0:1", 1);
        is("(snd (pair 1 2))", "0:2", 1);
        is("(let a 1 a)", "0:1", 0);
        is("(if true 1 2)", "0:1", 0);
        is("(split a b nil 1 2)", "0:1", 0);
        is("(app (fun a a) 1)", "0:1", 2);
        is("(app (own a b b) 1)", "0:1", 2);
        is("(app (app (fun a a) (fun b b)) (pair 1 2))", "3:0 0:1 0:2", 5);
    }
}
