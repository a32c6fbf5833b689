/** Promise 4: two. */
public final class TwoTest {
    private TwoTest() {
    }

    public static void main(String[] args) {
        makes();
        leftAndRight();
        bindNames();
        otherArguments();
        kinds();
        takesTwo();
        fortyMade();
        threeBinds();
        bindsThatCount();
        tooFew();
        order();
        Check.end();
    }

    private static void is(String term, String items) {
        Check.due(term + " is", Notation.valueOf(Notation.of(term)), items);
    }

    private static void makes() {
        Check.sentence("two, by kind, 0: apply X Y, .., 8: bind k X Y");
        is("(app (fun a (sub a 1)) 7)", "0:6");
        is("(pair 7 true)", "3:0 0:7 1:1");
        is("(cons 7 nil)", "4:1 0:7");
        is("(add 7 2)", "0:9");
        is("(sub 7 2)", "0:5");
        is("(mul 7 2)", "0:14");
        is("(less 7 2)", "1:0");
        is("(equal 7 2)", "1:0");
        is("(equal 7 7)", "1:1");
        is("(let f 7 (sub f 2))", "0:5");
    }

    private static void leftAndRight() {
        Check.sentence("two: takes X and Y off (Y the top)");
        is("(pair 1 2)", "3:0 0:1 0:2");
        is("(sub 1 3)", "0:-2");
        is("(less 1 3)", "1:1");
        Check.due("Y is no function", Notation.typeOf(Notation.of("(app 1 (fun a a))")), "ILL");
        Check.due("Y is the list", Notation.typeOf(Notation.of("(cons nil 1)")), "ILL");
        Check.due("Y has the name", Notation.typeOf(Notation.of("(let a a 1)")), "ILL");
    }

    private static void range(int kind, int k, boolean fine) {
        TypedTerms x = Made.terms(2, 2);
        String call = "two " + kind + " " + k;
        Check.due(call, x.two(kind, k), fine ? 1 : TypedTerms.BAD_ARG);
        Check.due("depth after " + call, x.depth(), fine ? 1 : 2);
        Check.due("room after " + call, Made.room(x), fine ? 37 : 38);
    }

    private static void bindNames() {
        Check.sentence("two 8: bind k X Y (k from 0 to 7)");
        for (int k = -10; k <= 20; k++) {
            range(8, k, k >= 0 && k <= 7);
        }
        int[] far = {Made.MIN, -256, 63, 64, 256, Made.MAX};
        for (int k : far) {
            range(8, k, false);
        }
        for (int k = 0; k <= 7; k++) {
            for (int name = 0; name <= 7; name++) {
                TypedTerms x = new TypedTerms();
                x.leaf(0, 5);
                x.leaf(2, name);
                x.two(8, k);
                Check.due("bind " + k + " in name " + name, Notation.valueOf(x),
                        k == name ? "0:5" : "ILL");
            }
        }
    }

    private static void otherArguments() {
        Check.sentence("two: else k does not matter");
        int[] tried = {Made.MIN, -1, 0, 7, 8, 64, Made.MAX};
        for (int kind = 0; kind <= 7; kind++) {
            for (int k : tried) {
                range(kind, k, true);
            }
        }
    }

    private static void kinds() {
        Check.sentence("two: kind out of its range answers BAD_ARG");
        int[] bad = {Made.MIN, Made.MIN + 8, -256, -8, -2, -1, 9, 10, 16, 256, 264, Made.MAX - 7,
            Made.MAX};
        for (int kind : bad) {
            range(kind, 0, false);
            range(kind, 7, false);
            range(kind, Made.MAX, false);
        }
    }

    private static void takesTwo() {
        Check.sentence("two: otherwise the number on the stack");
        for (int held = 2; held <= 8; held++) {
            for (int kind = 0; kind <= 8; kind++) {
                TypedTerms x = Made.terms(held, held);
                Check.due("two " + kind + " on " + held, x.two(kind, 0), held - 1);
                Check.due("depth", x.depth(), held - 1);
                Check.due("drop", x.drop(), held - 2);
                Check.due("what was below", x.number(0), held - 2);
            }
        }
    }

    private static void fortyMade() {
        Check.sentence("two: 40 terms answers FULL");
        for (int kind = 0; kind <= 8; kind++) {
            TypedTerms x = Made.terms(39, 3);
            Check.due("the 40th, kind " + kind, x.two(kind, 0), 2);
            Check.due("the 41st, kind " + kind, x.two(kind, 0), TypedTerms.FULL);
            Check.due("depth", x.depth(), 2);
            x.clear();
            Made.hold(x, 2);
            Check.due("after clear, kind " + kind, x.two(kind, 0), 1);
        }
        TypedTerms x = Made.terms(40, 3);
        x.two(1, 0);
        Check.due("the top after a refused two", x.number(0), 3);
        x.drop();
        Check.due("what is below it", x.number(0), 2);
    }

    private static void threeBinds() {
        Check.sentence("two: 3 binds were made since clear and kind = 8, answers FULL");
        for (int k = 0; k <= 7; k++) {
            TypedTerms x = Made.binds(2, 3);
            Check.due("the third bind " + k, x.two(8, k), 2);
            Check.due("the fourth bind " + k, x.two(8, k), TypedTerms.FULL);
            Check.due("depth", x.depth(), 2);
            x.clear();
            Made.hold(x, 2);
            Check.due("bind after clear", x.two(8, k), 1);
        }
        for (int kind = 0; kind <= 7; kind++) {
            Check.due("kind " + kind + " after three binds", Made.binds(3, 2).two(kind, 8), 1);
        }
        Check.due("one after three binds", Made.binds(3, 2).one(0, 0), 2);
        Check.due("three after three binds", Made.binds(3, 3).three(0, 0), 1);
        Check.due("leaf after three binds", Made.binds(3, 7).leaf(0, 0), 8);
        Check.due("room of a new object", Made.roomForBinds(new TypedTerms()), 3);
    }

    private static void bindsThatCount() {
        Check.sentence("two: binds were made since clear, on the stack, in a term or dropped");
        for (int binds = 0; binds <= 3; binds++) {
            Check.due("room after " + binds + " dropped ones",
                    Made.roomForBinds(Made.binds(binds, 0)), 3 - binds);
            TypedTerms x = Made.binds(binds, 2);
            x.two(8, 9);
            x.two(8, -1);
            x.drop();
            x.two(8, 0);
            x.two(0, 0);
            x.drop();
            Check.due("refused ones don't count", Made.roomForBinds(x), 3 - binds);
        }
        TypedTerms x = Notation.of("(pair (let a 1 a) (let b 2 b))");
        x.leaf(0, 1);
        Check.due("room beside terms with two", Made.roomForBinds(x), 1);
        x.clear();
        Check.due("room after clear", Made.roomForBinds(x), 3);
        x.drop();
        x.drop();
        x.drop();
        Made.hold(x, 2);
        Check.due("drop of all is no clear", x.two(8, 0), TypedTerms.FULL);
        x.untype();
        Check.due("nor is untype", x.two(8, 0), TypedTerms.FULL);
    }

    private static void tooFew() {
        Check.sentence("two: TOO_FEW");
        for (int kind = 0; kind <= 8; kind++) {
            for (int held = 0; held <= 1; held++) {
                TypedTerms x = Made.terms(5, held);
                Check.due("two " + kind + " on " + held, x.two(kind, 0), TypedTerms.TOO_FEW);
                Check.due("depth", x.depth(), held);
                Check.due("number", x.number(0), held);
                Check.due("room", Made.room(x), 35);
            }
            Check.due("two " + kind + " on 2", Made.terms(5, 2).two(kind, 0), 1);
        }
    }

    private static void order() {
        Check.sentence("two: tested in this order: BAD_ARG, FULL, TOO_FEW");
        int[][] bad = {{-1, 0}, {9, 0}, {8, -1}, {8, 8}};
        for (int held = 0; held <= 2; held++) {
            for (int[] b : bad) {
                Check.due("bad on " + held, Made.terms(2, held).two(b[0], b[1]), TypedTerms.BAD_ARG);
                Check.due("bad on " + held + ", 40 terms", Made.terms(40, held).two(b[0], b[1]),
                        TypedTerms.BAD_ARG);
                Check.due("bad on " + held + ", 3 binds", Made.binds(3, held).two(b[0], b[1]),
                        TypedTerms.BAD_ARG);
            }
            for (int kind = 0; kind <= 8; kind++) {
                Check.due("two " + kind + " on " + held + ", 40 terms",
                        Made.terms(40, held).two(kind, 7), TypedTerms.FULL);
            }
            Check.due("bind on " + held + ", 3 binds", Made.binds(3, held).two(8, 7),
                    TypedTerms.FULL);
        }
        Check.due("bind on 1, 2 binds", Made.binds(2, 1).two(8, 7), TypedTerms.TOO_FEW);
        Check.due("apply on 1, 3 binds", Made.binds(3, 1).two(0, 7), TypedTerms.TOO_FEW);
    }
}
