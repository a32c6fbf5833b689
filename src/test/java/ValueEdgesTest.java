/** Promises 17 to 20 at their bounds: items, kind, number and steps. */
public final class ValueEdgesTest {
    private static final String ENDLESS = "(app (own a b (app a b)) 1)";
    private static final int[] PLACES = {Made.MIN, Made.MIN + 1, -200, -1, 0, 1, 99, 198, 199, 200,
        201, 256, 8192, Made.MAX};

    private ValueEdgesTest() {
    }

    public static void main(String[] args) {
        itemsOfTheTop();
        itemsIll();
        itemsTired();
        twoHundredItems();
        twoHundredItemsAndTheLast();
        manyElements();
        farTooManyItems();
        kindsFromZero();
        numberOfNone();
        numbersOfItems();
        stepsTaken();
        stepsIll();
        Check.end();
    }

    private static void itemsOfTheTop() {
        Check.sentence("items: how many items the value of the top term has");
        String[] terms = {"1", "nil", "(fun a a)", "(cons 1 nil)", "(pair 1 2)",
            "(pair (cons 1 (cons 2 nil)) nil)"};
        int[] sizes = {1, 1, 1, 2, 3, 5};
        TypedTerms x = new TypedTerms();
        for (int i = 0; i < terms.length; i++) {
            Notation.term(x, terms[i]);
            Check.due("items of " + terms[i], x.items(), sizes[i]);
        }
        for (int i = terms.length - 1; i >= 0; i--) {
            Check.due("items of " + terms[i] + " again", x.items(), sizes[i]);
            x.drop();
        }
        Check.due("items of none", x.items(), TypedTerms.ILL);
    }

    private static void codeOf(String state, TypedTerms x, int code, int steps) {
        Check.due("items " + state, x.items(), code);
        for (int i : PLACES) {
            Check.due("kind " + i + " " + state, x.kind(i), code);
            Check.due("number " + i + " " + state, x.number(i), 0);
        }
        Check.due("steps " + state, x.steps(), steps);
    }

    private static void itemsIll() {
        Check.sentence("items, kind: ILL");
        TypedTerms x = new TypedTerms();
        codeOf("of a new object", x, TypedTerms.ILL, TypedTerms.ILL);
        x.leaf(0, 1);
        x.drop();
        codeOf("after drop", x, TypedTerms.ILL, TypedTerms.ILL);
        x.leaf(0, 1);
        x.clear();
        codeOf("after clear", x, TypedTerms.ILL, TypedTerms.ILL);
        // A term that is not typed has no value, also where it could be worked out.
        String[] terms = {"a", "(add 1 true)", "(app 1 2)", "(fun a (app a a))", "(if true 1 nil)",
            "(if true 1 a)", "(fst (pair 1 a))", "(let a b 1)", "(less true 1)"};
        for (String term : terms) {
            codeOf("of " + term, Notation.of(term), TypedTerms.ILL, TypedTerms.ILL);
        }
    }

    private static void itemsTired() {
        Check.sentence("items, kind: TIRED; steps: 200 if it is tired");
        TypedTerms x = Notation.of("5");
        Notation.term(x, ENDLESS);
        codeOf("of an endless run", x, TypedTerms.TIRED, 200);
        x.drop();
        Check.due("items after a tired run", x.items(), 1);
        Check.due("steps after a tired run", x.steps(), 0);
        codeOf("of a pair with it", Notation.of("(pair 1 " + ENDLESS + ")"), TypedTerms.TIRED, 200);
        codeOf("of a choice of it", Notation.of("(if true " + ENDLESS + " 1)"), TypedTerms.TIRED, 200);
        // A tired run has no value that could be long.
        codeOf("of a long value and it", Notation.of("(pair " + Notation.doubledTenTimes("1") + " "
                + ENDLESS + ")"), TypedTerms.TIRED, 200);
    }

    private static String listOf(int length, String element) {
        return "(app (own f a (if (less a 1) nil (cons " + element + " (app f (sub a 1))))) "
                + length + ")";
    }

    /** A pair of a list of three lists of 60 elements, 1 + 3 * 61 items, and a list of some more. */
    private static void twoHundredItems() {
        Check.sentence("items: LONG if it has more than 200");
        for (int size = 196; size <= 204; size++) {
            boolean fine = size <= 200;
            int more = size - 1 - 184 - 1;
            TypedTerms x = Notation.of("(let g (own f a (if (less a 1) nil"
                    + " (cons (sub 0 a) (app f (sub a 1)))))"
                    + " (let b (app g 60) (pair (cons b (cons b (cons b nil))) (app g " + more + "))))");
            int steps = 1 + 121 + 3 + 2 * more + 1 + 1;
            if (!fine) {
                codeOf("of " + size, x, TypedTerms.LONG, steps);
                continue;
            }
            Check.due("steps for " + size, x.steps(), steps);
            Check.due("items " + size, x.items(), size);
            Check.due("first kind of " + size, x.kind(0), 3);
            Check.due("list in " + size, x.number(185), more);
            Check.due("last kind of " + size, x.kind(size - 1), 0);
            Check.due("last number of " + size, x.number(size - 1), -1);
            Check.due("kind beyond " + size, x.kind(size), TypedTerms.NONE);
            Check.due("number beyond " + size, x.number(size), 0);
            Check.due("kind before " + size, x.kind(-1), TypedTerms.NONE);
        }
    }

    /** Two values of 95 items, 5 pairs and 3 numbers: 198 items before the last part. */
    private static TypedTerms afterManyItems(String last) {
        return Notation.of(Notation.doubling("(let c " + Notation.doubled(5, "(cons 1 nil)")
                + " (pair (pair (pair (pair (pair c c) 1) 2) 3) " + last + "))"));
    }

    private static void twoHundredItemsAndTheLast() {
        Check.sentence("items: LONG if it has more than 200, whatever the last of them is");
        String[][] fine = {{"5", "199", "0"}, {"nil", "199", "4"}, {"(fun a a)", "199", "2"},
            {"(cons 6 nil)", "200", "0"}, {"(cons nil nil)", "200", "4"},
            {"(cons (fun a a) nil)", "200", "2"}};
        for (String[] f : fine) {
            TypedTerms x = afterManyItems(f[0]);
            int size = Integer.parseInt(f[1]);
            Check.due("items with " + f[0], x.items(), size);
            Check.due("last kind with " + f[0], x.kind(size - 1), Integer.parseInt(f[2]));
            Check.due("kind beyond " + f[0], x.kind(size), TypedTerms.NONE);
        }
        Object[][] more = {{"(pair 5 6)", 1}, {"(cons 5 (cons 6 nil))", 2},
            {"(cons (cons 6 nil) nil)", 2}, {"(cons nil (cons nil nil))", 2},
            {"(pair nil nil)", 1}, {"(cons (cons nil nil) nil)", 2}, {"(cons (pair 1 2) nil)", 2}};
        for (Object[] m : more) {
            codeOf("with " + m[0], afterManyItems((String) m[0]), TypedTerms.LONG,
                    1 + 11 + 5 + (Integer) m[1]);
        }
    }

    private static void manyElements() {
        Check.sentence("items: a list and its length, then the items of its elements");
        TypedTerms x = Notation.of(listOf(99, "a"));
        Check.due("items of 99", x.items(), 100);
        Check.due("steps of 99", x.steps(), 200);
        Check.due("kind of it", x.kind(0), 4);
        Check.due("length of it", x.number(0), 99);
        for (int i = 1; i <= 99; i++) {
            Check.due("element " + i, x.number(i), 100 - i);
        }
        TypedTerms y = Notation.of(listOf(66, "(pair a 7)"));
        Check.due("items of 66 pairs", y.items(), 199);
        Check.due("steps of 66 pairs", y.steps(), 200);
        Check.due("last of 66 pairs", y.number(198), 7);
        TypedTerms z = Notation.of("(let b (pair 1 2) " + listOf(67, "b") + ")");
        codeOf("of 67 pairs", z, TypedTerms.LONG, 1 + 1 + 68 + 67);
        Check.due("empty has length 0", Notation.valueOf(Notation.of("nil")), "4:0");
    }

    private static void farTooManyItems() {
        Check.sentence("items: LONG, however many there are");
        codeOf("of 2047", Notation.of(Notation.doubledTenTimes("1")), TypedTerms.LONG, 24);
        // Too many items for a call to visit each.
        codeOf("of 2 to the 31", Notation.of(Notation.doubling("(let e (fun b "
                + Notation.doubled(5, "b")
                + ") (let c (fun b (app e (app e (app e b)))) (app c (app c 1))))")),
                TypedTerms.LONG, 3 + 2 + 6 + 30 + 30);
        codeOf("of a list of lists of lists", Notation.of("(let b " + listOf(30, "a") + " (let c "
                + listOf(30, "b") + " (cons c (cons c (cons c nil)))))"), TypedTerms.LONG, 127);
    }

    private static void kindsFromZero() {
        Check.sentence("kind: the kind of item i of it, numbered from 0; NONE if there is none");
        TypedTerms x = Notation.of("(pair 6 (cons true (cons false nil)))");
        int[] kinds = {3, 0, 4, 1, 1};
        for (int i : PLACES) {
            Check.due("kind " + i, x.kind(i), i == 0 ? 3 : i == 1 ? 0 : TypedTerms.NONE);
        }
        for (int i = 0; i < 5; i++) {
            Check.due("kind " + i, x.kind(i), kinds[i]);
        }
        Check.due("kind 5", x.kind(5), TypedTerms.NONE);
        TypedTerms y = Notation.of("(fun a a)");
        Check.due("kind 0 of a function", y.kind(0), 2);
        Check.due("kind 1 of a function", y.kind(1), TypedTerms.NONE);
        Check.due("kind -1 of a function", y.kind(-1), TypedTerms.NONE);
    }

    private static void numberOfNone() {
        Check.sentence("number: 0 if there is none, or items would not answer a number");
        // Before the shorter value there is a longer one, of which nothing may be left.
        TypedTerms x = Notation.of("7");
        Notation.term(x, "(pair 8 (pair 9 (cons 3 nil)))");
        Check.due("number 3", x.number(3), 9);
        Check.due("number 5", x.number(5), 3);
        Check.due("number 6", x.number(6), 0);
        x.drop();
        for (int i : PLACES) {
            Check.due("number " + i + " of 7", x.number(i), i == 0 ? 7 : 0);
        }
        x.drop();
        for (int i : PLACES) {
            Check.due("number " + i + " of none", x.number(i), 0);
        }
        Notation.term(x, "a");
        Check.due("number of a name", x.number(0), 0);
    }

    private static void numbersOfItems() {
        Check.sentence("number: the number of item i of it");
        Object[][] cases = {{"-99", "0:-99"}, {"99", "0:99"}, {"0", "0:0"}, {"true", "1:1"},
            {"false", "1:0"}, {"(fun h 7)", "2:0"}, {"(own g h 7)", "2:0"},
            {"(pair 4 5)", "3:0 0:4 0:5"}, {"(cons 4 (cons 5 nil))", "4:2 0:4 0:5"},
            {"(cons nil nil)", "4:1 4:0"}, {"(pair (pair 1 2) 3)", "3:0 3:0 0:1 0:2 0:3"},
            {"(pair 1 (pair 2 3))", "3:0 0:1 3:0 0:2 0:3"}};
        for (Object[] c : cases) {
            Check.due("" + c[0], Notation.valueOf(Notation.of((String) c[0])), (String) c[1]);
        }
    }

    private static void stepsTaken() {
        Check.sentence("steps: the number of steps taken in working the top term out");
        Object[][] cases = {{"1", 0}, {"nil", 0}, {"true", 0}, {"(fun a a)", 1}, {"(own a b b)", 1},
            {"(pair 1 2)", 1}, {"(cons 1 nil)", 1}, {"(app (fun a a) 1)", 2},
            {"(app (own a b b) 1)", 2}, {"(app (app (fun a a) (fun b b)) (pair 1 2))", 5}};
        for (Object[] c : cases) {
            TypedTerms x = Notation.of((String) c[0]);
            Check.due("steps of " + c[0], x.steps(), (Integer) c[1]);
            Check.due("steps once more", x.steps(), (Integer) c[1]);
        }
    }

    private static void stepsIll() {
        Check.sentence("steps: ILL");
        TypedTerms x = new TypedTerms();
        Check.due("of a new object", x.steps(), TypedTerms.ILL);
        Notation.term(x, "(fun a a)");
        Check.due("of a function", x.steps(), 1);
        Notation.term(x, "(fun a b)");
        Check.due("of a name without meaning", x.steps(), TypedTerms.ILL);
        Notation.term(x, "(fun a (app a a))");
        Check.due("of what is part of itself", x.steps(), TypedTerms.ILL);
        x.drop();
        x.drop();
        Check.due("of the function again", x.steps(), 1);
        x.drop();
        Check.due("of none", x.steps(), TypedTerms.ILL);
    }
}
