/** The sentences of the section "Terms" that name a bound: names, own, split, int, steps. */
public final class BoundsTest {
    private static final int MAX_STEPS = 200;

    private BoundsTest() {
    }

    public static void main(String[] args) {
        eightNames();
        eightNamesByBindAndSplit();
        ownWithOneName();
        splitWithTwoNames();
        numbersAtTheEnds();
        sumsWrap();
        differencesWrap();
        productsWrap();
        comparisonsAtTheEnds();
        stepsOfEachKind();
        stepOfApply();
        noSteps();
        noStepsForParts();
        tiredEndsTheRun();
        fiveHundredAndTwelveCalls();
        longestRuns();
        callsThatAskMuch();
        Check.end();
    }

    private static void is(String term, String items, int steps) {
        TypedTerms x = Notation.of(term);
        Check.due(term + " is", Notation.valueOf(x), items);
        Check.due("steps of " + term, x.steps(), steps);
    }

    // ---- names ----

    /** All eight names have a meaning at once, and each has its own. */
    private static void eightNames() {
        Check.sentence("names are 0 to 7");
        for (int name = 0; name <= 7; name++) {
            TypedTerms x = new TypedTerms();
            x.leaf(2, name);
            for (int k = 7; k >= 0; k--) {
                x.one(0, k);
            }
            StringBuilder type = new StringBuilder();
            for (int k = 0; k <= 7; k++) {
                type.append("2 ").append(10 + k).append(' ');
            }
            Check.due("type of name " + name, Notation.typeOf(x), type.toString() + (10 + name));
            for (int k = 0; k <= 7; k++) {
                x.leaf(0, 90 + k);
                x.two(0, 0);
            }
            Check.due("name " + name, Notation.valueOf(x), "0:" + (90 + name));
            Check.due("steps of name " + name, x.steps(), 16);
        }
    }

    private static void eightNamesByBindAndSplit() {
        Check.sentence("names are 0 to 7, each bound by each that binds");
        for (int name = 0; name <= 7; name++) {
            String n = "" + (char) ('a' + name);
            String o = "" + (char) ('a' + (name + 3) % 8);
            is("(let N 5 (let O 6 N))".replace("N", n).replace("O", o), "0:5", 0);
            is("(let O 6 (let N 5 N))".replace("N", n).replace("O", o), "0:5", 0);
            is("(split N O (cons 5 nil) 6 N)".replace("N", n).replace("O", o), "0:5", 1);
            is("(split O N (cons 5 nil) nil N)".replace("N", n).replace("O", o), "4:0", 1);
            is("(app (own O N N) 5)".replace("N", n).replace("O", o), "0:5", 2);
            is("(app (own N O (if (less O 1) 5 (app N 0))) 1)".replace("N", n).replace("O", o),
                    "0:5", 3);
        }
    }

    private static void ownWithOneName() {
        Check.sentence("own f x X where f and x are the same name: x counts");
        for (int name = 0; name <= 7; name++) {
            String n = "" + (char) ('a' + name);
            String[][] cases = {
                {"(own N N N)", "2 10 10", "2:0"}, {"(own N N (add N 1))", "2 0 0", "2:0"},
                {"(own N N (app N 1))", "2 2 0 10 10", "2:0"},
                {"(app (own N N N) 4)", "0", "0:4"}, {"(app (own N N (add N 1)) 4)", "0", "0:5"},
                {"(let N true (app (own N N (add N 1)) 4))", "0", "0:5"},
                {"(app (own N N (app N 3)) (own N N (mul N N)))", "0", "0:9"},
                {"(app (own N N (pair N N)) nil)", "3 4 10 4 10", "3:0 4:0 4:0"}};
            for (String[] c : cases) {
                TypedTerms x = Notation.of(c[0].replace("N", n));
                Check.due(c[0] + " with " + n + " has", Notation.typeOf(x), c[1]);
                Check.due(c[0] + " with " + n + " is", Notation.valueOf(x), c[2]);
            }
        }
        Check.due("its name is no function's", Notation.typeOf(Notation.of("(own a a (app a a))")),
                "ILL");
    }

    private static void splitWithTwoNames() {
        Check.sentence("split h t L X Y (h and t are different names)");
        TypedTerms x = Made.terms(3, 3);
        for (int name = 0; name <= 7; name++) {
            Check.due("split " + name + " " + name, x.three(1, 9 * name), TypedTerms.BAD_ARG);
        }
        Check.due("depth", x.depth(), 3);
        is("(split a b (cons 1 (cons 2 nil)) (pair 0 nil) (pair a b))", "3:0 0:1 4:1 0:2", 3);
        is("(split b a (cons 1 (cons 2 nil)) (pair 0 nil) (pair b a))", "3:0 0:1 4:1 0:2", 3);
        is("(split a b (cons 1 (cons 2 nil)) 0 (split b a b 5 b))", "0:2", 2);
        is("(split a b (cons 1 nil) 0 (split b a b 5 b))", "0:5", 1);
        is("(let a 7 (let b 8 (split a b nil (pair a b) (pair 0 0))))", "3:0 0:7 0:8", 1);
    }

    // ---- arithmetic wraps ----

    /** A term in which c is the least int and d the greatest one, neither by going over the end. */
    private static String atTheEnds(String term) {
        return "(let e (mul 64 (mul 64 (mul 64 (mul 64 64)))) (let c (sub (sub 0 e) e)"
                + " (let d (add e (sub e 1)) " + term + ")))";
    }

    private static void end(String term, int value) {
        is(atTheEnds(term), "0:" + value, 0);
    }

    private static void truth(String term, boolean value) {
        is(atTheEnds(term), "1:" + (value ? 1 : 0), 0);
    }

    private static void numbersAtTheEnds() {
        Check.sentence("values are ints: the ends of their range");
        end("c", Made.MIN);
        end("d", Made.MAX);
        end("(add c 1)", Made.MIN + 1);
        end("(sub d 1)", Made.MAX - 1);
        end("(add c d)", -1);
        is("(pair 1 " + atTheEnds("(cons c (cons d nil))") + ")",
                "3:0 0:1 4:2 0:" + Made.MIN + " 0:" + Made.MAX, 3);
    }

    private static void sumsWrap() {
        Check.sentence("arithmetic wraps: add");
        end("(add d 1)", Made.MIN);
        end("(add 1 d)", Made.MIN);
        end("(add c -1)", Made.MAX);
        end("(add d d)", -2);
        end("(add c c)", 0);
        end("(add d 99)", Made.MIN + 98);
    }

    private static void differencesWrap() {
        Check.sentence("arithmetic wraps: sub");
        end("(sub c 1)", Made.MAX);
        end("(sub d -1)", Made.MIN);
        end("(sub 0 c)", Made.MIN);
        end("(sub -1 c)", Made.MAX);
        end("(sub 0 d)", Made.MIN + 1);
        end("(sub c d)", 1);
        end("(sub d c)", -1);
    }

    private static void productsWrap() {
        Check.sentence("arithmetic wraps: mul");
        end("(mul d 2)", -2);
        end("(mul c 2)", 0);
        end("(mul c -1)", Made.MIN);
        end("(mul d -1)", Made.MIN + 1);
        end("(mul d d)", 1);
        end("(mul c c)", 0);
        end("(mul c d)", Made.MIN);
        end("(mul e 2)", Made.MIN);
        end("(mul e -2)", Made.MIN);
        end("(mul e 4)", 0);
        end("(mul d 99)", Made.MAX - 98);
        int eighth = 99 * 99 * 99 * 99 * 99 * 99 * 99 * 99;
        is("(let c (fun a (mul a a)) (app c (app c (app c 99))))", "0:" + eighth, 4);
    }

    /** The difference of the two ends is no int, so it can't tell which is less. */
    private static void comparisonsAtTheEnds() {
        Check.sentence("less, equal X Y, where arithmetic wraps");
        truth("(less c d)", true);
        truth("(less d c)", false);
        truth("(less c 0)", true);
        truth("(less 0 c)", false);
        truth("(less d 0)", false);
        truth("(less 0 d)", true);
        truth("(less c c)", false);
        truth("(less d d)", false);
        truth("(less c (add c 1))", true);
        truth("(less d (add d 1))", false);
        truth("(less (sub d 1) d)", true);
        truth("(equal c c)", true);
        truth("(equal c d)", false);
        truth("(equal (add d 1) c)", true);
        truth("(equal (mul e 4) 0)", true);
        truth("(equal c (sub 0 c))", true);
        truth("(equal d (add d 1))", false);
    }

    // ---- steps ----

    /** A term that takes so many steps, 2 to 200 of them, and is 0. */
    private static String taking(int steps) {
        int calls = steps - 2;
        String number = calls <= 99 ? "" + calls : "(add 99 " + (calls - 99) + ")";
        return "(app (own f a (if (less a 1) a (app f (sub a 1)))) " + number + ")";
    }

    private static void after(int steps, String term, String items, int more) {
        String whole = "(let a " + taking(steps) + " " + term + ")";
        TypedTerms x = Notation.of(whole);
        boolean tired = steps + more > MAX_STEPS;
        Check.due("after " + steps + " steps " + term, Notation.valueOf(x), tired ? "TIRED" : items);
        Check.due("steps of it", x.steps(), tired ? MAX_STEPS : steps + more);
        Check.due("number of it", x.number(0) != 0, !tired && !items.matches("\\d:0.*"));
    }

    private static void stepsOfEachKind() {
        Check.sentence("a step: if 200 steps were taken before, the run is TIRED and ends");
        for (int steps = 196; steps <= MAX_STEPS; steps++) {
            Check.due("value of " + steps, Notation.valueOf(Notation.of(taking(steps))), "0:0");
            Check.due("steps of " + steps, Notation.of(taking(steps)).steps(), steps);
            after(steps, "(fun b b)", "2:0", 1);
            after(steps, "(own c b b)", "2:0", 1);
            after(steps, "(pair 1 2)", "3:0 0:1 0:2", 1);
            after(steps, "(cons 1 nil)", "4:1 0:1", 1);
            after(steps, "(app (fun b 7) 1)", "0:7", 2);
            after(steps, "(app (own c b 7) 1)", "0:7", 2);
            after(steps, "(pair (pair 1 2) (fun b b))", "3:0 3:0 0:1 0:2 2:0", 3);
            after(steps, "(cons 1 (cons 2 (cons 3 nil)))", "4:3 0:1 0:2 0:3", 3);
        }
        TypedTerms x = Notation.of("(app (own f a (if (less a 1) a (app f (sub a 1)))) (add 99 (add 99 1)))");
        Check.due("a count of 201", x.items(), TypedTerms.TIRED);
        Check.due("its steps", x.steps(), MAX_STEPS);
    }

    private static void stepOfApply() {
        Check.sentence("apply F X: F, X, then a step, then the function's X");
        for (int steps = 196; steps < MAX_STEPS; steps++) {
            // The function takes the one step that taking() leaves out.
            TypedTerms x = Notation.of("(let g (fun b 7) (app g " + taking(steps - 1) + "))");
            Check.due("applied after " + steps, Notation.valueOf(x), "0:7");
            Check.due("steps of that", x.steps(), steps + 1);
        }
        TypedTerms last = Notation.of("(let g (fun b 7) (app g " + taking(199) + "))");
        Check.due("applied after 200", Notation.valueOf(last), "TIRED");
        Check.due("steps of that", last.steps(), MAX_STEPS);
    }

    private static void noSteps() {
        Check.sentence("no step is taken for choose, bind, split, add and the others");
        String[][] cases = {{"5", "0:5"}, {"true", "1:1"}, {"nil", "4:0"}, {"a", "0:0"},
            {"(let b 5 b)", "0:5"}, {"(if true 5 6)", "0:5"}, {"(if false 5 6)", "0:6"},
            {"(split b c nil 5 6)", "0:5"}, {"(add 5 6)", "0:11"}, {"(sub 5 6)", "0:-1"},
            {"(mul 5 6)", "0:30"}, {"(less 5 6)", "1:1"}, {"(equal 5 6)", "1:0"}};
        for (String[] c : cases) {
            is(c[0].equals("a") ? "(let a 0 a)" : c[0], c[1], 0);
            for (int steps = 198; steps <= MAX_STEPS; steps++) {
                after(steps, c[0], c[1], 0);
            }
        }
    }

    private static void noStepsForParts() {
        Check.sentence("first, second, split: no step is taken for that");
        String[][] cases = {{"(fst h)", "0:5"}, {"(snd h)", "4:1 0:6"},
            {"(split b c (snd h) 0 b)", "0:6"}, {"(split b c (snd h) nil c)", "4:0"}};
        for (String[] c : cases) {
            is("(let h (pair 5 (cons 6 nil)) (let a " + taking(198) + " " + c[0] + "))", c[1], 200);
            is("(let h (pair 5 (cons 6 nil)) " + c[0] + ")", c[1], 2);
        }
    }

    private static void tiredEndsTheRun() {
        Check.sentence("the run is TIRED and ends");
        String endless = "(app (own a b (app a b)) 1)";
        String[] around = {"(let a X 1)", "(pair X 1)", "(pair 1 X)", "(fst (pair 1 X))",
            "(cons X nil)", "(if (less X 1) 1 2)", "(if true X 2)", "(split a b (cons X nil) 1 2)",
            "(add X 1)", "(add 1 X)", "(app (fun a 1) X)", "(app X 1)", "(equal X X)"};
        for (String term : around) {
            TypedTerms x = Notation.of(term.replace("X", endless));
            Check.due(term + " items", x.items(), TypedTerms.TIRED);
            Check.due(term + " kind", x.kind(0), TypedTerms.TIRED);
            Check.due(term + " number", x.number(0), 0);
            Check.due(term + " steps", x.steps(), MAX_STEPS);
            Check.due(term + " is typed", x.typed(), 1);
        }
        // What is not worked out tires nobody.
        String[] aside = {"(if true 1 X)", "(if false X 1)", "(split a b nil 1 X)"};
        for (String term : aside) {
            is(term.replace("X", endless), "0:1", 0);
        }
        is("(split a b (cons 3 nil) X a)".replace("X", endless), "0:3", 1);
        is("(fun c X)".replace("X", endless), "2:0", 1);
    }

    // ---- the calls of an object ----

    private static void fiveHundredAndTwelveCalls() {
        Check.sentence("an object is used for at most 512 calls after it has been made");
        TypedTerms x = new TypedTerms();
        int calls = 0;
        while (calls + 9 <= 512) {
            x.clear();
            x.leaf(2, 1);
            x.leaf(2, 1);
            x.two(1, 0);
            x.one(0, 1);
            x.leaf(0, calls % 100);
            x.two(0, 0);
            Check.due("number after " + calls, x.number(2), calls % 100);
            Check.due("size after " + calls, x.typeSize(), 3);
            calls += 9;
        }
        while (calls < 511) {
            x.typed();
            calls++;
        }
        Check.due("the 512th call", x.steps(), 3);
    }

    /** 198 times a body of more than 30 terms, with three sums waiting for each of them. */
    private static void longestRuns() {
        Check.sentence("a step: what is worked out between the steps has no bound of its own");
        String body = "(app f (sub a 1))";
        for (int i = 0; i < 8; i++) {
            body = "(add " + body + " 1)";
        }
        for (int i = 0; i < 3; i++) {
            body = "(add 1 " + body + ")";
        }
        String run = "(app (own f a (if (less a 1) 0 " + body + ")) (add 99 X))";
        is(run.replace("X", "99"), "0:" + 11 * 198, 200);
        TypedTerms x = Notation.of("(pair " + run.replace("X", "99") + " 1)");
        Check.due("with one step more", x.items(), TypedTerms.TIRED);
        is("(pair " + run.replace("X", "98") + " 1)", "3:0 0:" + 11 * 197 + " 0:1", 200);
    }

    /** No call leaves anything behind that a later one could stumble over. */
    private static void callsThatAskMuch() {
        Check.sentence("an object is used for at most 512 calls, each as large as may be");
        TypedTerms names = new TypedTerms();
        names.leaf(2, 7);
        for (int i = 0; i < 39; i++) {
            names.one(1, 8 * (i % 7) + 7);
        }
        for (int calls = 40; calls < 512; calls++) {
            Check.due("39 owns at " + calls, names.typeSize(), 79);
        }
        TypedTerms waiting = Notation.of("5");
        Notation.term(waiting, "(app (own a b (add 1 (app a b))) 1)");
        for (int calls = 20; calls < 500; calls++) {
            Check.due("a tired run at " + calls, waiting.items(), TypedTerms.TIRED);
        }
        waiting.drop();
        Check.due("number of 5 after tired runs", waiting.number(0), 5);
        Check.due("items of 5", waiting.items(), 1);
        // Each kind of question comes right after a tired run.
        TypedTerms next = Notation.of("(app (own a b (add 1 (app a b))) 1)");
        for (int question = 0; question < 5; question++) {
            next.items();
            Notation.term(next, "6");
            int[] due = {6, 1, 0, 0, 1};
            int got = question == 0 ? next.number(0) : question == 1 ? next.items()
                    : question == 2 ? next.steps() : question == 3 ? next.kind(0) : next.typeSize();
            Check.due("question " + question + " after a tired run", got, due[question]);
            next.drop();
        }
    }
}
