/** Promises 1, 6, 7 and 8: a new object, drop, clear and depth. */
public final class TermStackTest {
    private TermStackTest() {
    }

    public static void main(String[] args) {
        constants();
        newObject();
        objectsAreApart();
        dropTakesTheTop();
        dropOfNone();
        dropGivesNoRoom();
        clearEmpties();
        clearForgetsTheMade();
        clearForgetsTheOldTerms();
        clearLeavesTheTypes();
        depths();
        Check.end();
    }

    private static void constants() {
        Check.sentence("the constants");
        Check.due("BAD_ARG", TypedTerms.BAD_ARG, -1);
        Check.due("FULL", TypedTerms.FULL, -2);
        Check.due("TOO_FEW", TypedTerms.TOO_FEW, -3);
        Check.due("NONE", TypedTerms.NONE, -4);
        Check.due("ILL", TypedTerms.ILL, -5);
        Check.due("LONG", TypedTerms.LONG, -6);
        Check.due("TIRED", TypedTerms.TIRED, -7);
    }

    private static void newObject() {
        Check.sentence("a new object: both stacks are empty");
        nothingHeld("new", new TypedTerms());
        Check.due("new drop", new TypedTerms().drop(), TypedTerms.TOO_FEW);
        Check.due("new untype", new TypedTerms().untype(), 0);
        for (int kind = 0; kind <= 3; kind++) {
            Check.due("new one " + kind, new TypedTerms().one(kind, 0), TypedTerms.TOO_FEW);
        }
        for (int kind = 0; kind <= 8; kind++) {
            Check.due("new two " + kind, new TypedTerms().two(kind, 0), TypedTerms.TOO_FEW);
        }
        for (int kind = 0; kind <= 1; kind++) {
            Check.due("new three " + kind, new TypedTerms().three(kind, 1), TypedTerms.TOO_FEW);
        }
        for (int kind = 3; kind <= 5; kind++) {
            Check.due("new type " + kind, new TypedTerms().type(kind, 0), TypedTerms.TOO_FEW);
        }
        Check.due("new room", Made.room(new TypedTerms()), 40);
        Check.due("new room for binds", Made.roomForBinds(new TypedTerms()), 3);
    }

    private static void nothingHeld(String state, TypedTerms x) {
        Check.due(state + " depth", x.depth(), 0);
        Check.due(state + " typed", x.typed(), 0);
        Check.due(state + " typeSize", x.typeSize(), TypedTerms.ILL);
        Check.due(state + " symbol", x.symbol(0), TypedTerms.ILL);
        Check.due(state + " variables", x.variables(), TypedTerms.ILL);
        Check.due(state + " fits", x.fits(), false);
        Check.due(state + " meets", x.meets(), false);
        Check.due(state + " items", x.items(), TypedTerms.ILL);
        Check.due(state + " kind", x.kind(0), TypedTerms.ILL);
        Check.due(state + " number", x.number(0), 0);
        Check.due(state + " steps", x.steps(), TypedTerms.ILL);
    }

    private static void objectsAreApart() {
        Check.sentence("a new object: its stacks are its own");
        TypedTerms x = new TypedTerms();
        TypedTerms y = new TypedTerms();
        x.leaf(0, 1);
        x.type(0, 0);
        nothingHeld("another object's", y);
        Check.due("another object's untype", y.untype(), 0);
        y.clear();
        Check.due("depth after another's clear", x.depth(), 1);
        Check.due("fits after another's untype", x.fits(), true);
    }

    private static void dropTakesTheTop() {
        Check.sentence("drop: takes the top off the stack; otherwise the number on the stack");
        TypedTerms x = Made.terms(8, 8);
        for (int left = 7; left >= 0; left--) {
            Check.due("the top", x.number(0), left + 1);
            Check.due("drop", x.drop(), left);
            Check.due("depth", x.depth(), left);
        }
        TypedTerms y = Notation.of("(pair 1 2)");
        Check.due("drop of a term with parts", y.drop(), 0);
        nothingHeld("after it", y);
    }

    private static void dropOfNone() {
        Check.sentence("drop: TOO_FEW if it is empty");
        TypedTerms x = new TypedTerms();
        Check.due("drop of a new object", x.drop(), TypedTerms.TOO_FEW);
        Check.due("depth", x.depth(), 0);
        x.leaf(0, 1);
        x.drop();
        Check.due("drop after the last", x.drop(), TypedTerms.TOO_FEW);
        Check.due("and once more", x.drop(), TypedTerms.TOO_FEW);
        x.leaf(0, 1);
        x.clear();
        Check.due("drop after clear", x.drop(), TypedTerms.TOO_FEW);
        x.type(0, 0);
        Check.due("drop beside a type", x.drop(), TypedTerms.TOO_FEW);
        Check.due("the type stays", x.untype(), 1);
        Check.due("leaf after refused drops", x.leaf(0, 5), 1);
        Check.due("its number", x.number(0), 5);
    }

    private static void dropGivesNoRoom() {
        Check.sentence("drop: dropped terms were made since the stack was last emptied by clear");
        TypedTerms x = Made.terms(10, 4);
        for (int i = 0; i < 6; i++) {
            x.drop();
        }
        Check.due("room after drops", Made.room(x), 30);
        Check.due("depth", x.depth(), 0);
    }

    private static void clearEmpties() {
        Check.sentence("clear: empties the stack of terms");
        for (int held = 0; held <= 8; held++) {
            TypedTerms x = Made.terms(held, held);
            x.clear();
            nothingHeld("cleared", x);
            Check.due("drop", x.drop(), TypedTerms.TOO_FEW);
            Check.due("leaf", x.leaf(0, 3), 1);
            Check.due("its number", x.number(0), 3);
        }
    }

    private static void clearForgetsTheMade() {
        Check.sentence("clear: no term counts as made");
        TypedTerms x = Made.terms(40, 8);
        x.clear();
        Check.due("room", Made.room(x), 40);
        x.clear();
        x.clear();
        Check.due("room after two clears", Made.room(x), 40);
        TypedTerms y = Made.binds(3, 1);
        y.clear();
        Check.due("room for binds", Made.roomForBinds(y), 3);
        TypedTerms z = Made.binds(3, 0);
        z.clear();
        // The leaves take the places that the binds had.
        Made.hold(z, 8);
        Check.due("bind among old places", z.two(8, 0), 7);
    }

    /** The places of the old terms are used again; what they were must not show. */
    private static void clearForgetsTheOldTerms() {
        Check.sentence("clear: the terms that were made before are gone");
        String[] before = {"(let a 1 a)", "(let a nil (cons 1 a))", "(fun a (fun b b))",
            "(split a b (cons 1 nil) 0 a)", "(fun a (app a a))", "(app (own a b (app a b)) 1)"};
        String[][] after = {{"(fun b (pair 5 b))", "2 10 3 0 10", "2:0"},
            {"(let b 5 (pair b nil))", "3 0 4 10", "3:0 0:5 4:0"}, {"a", "ILL", "ILL"},
            {"(app (fun b (pair b true)) 6)", "3 0 1", "3:0 0:6 1:1"}, {"nil", "4 10", "4:0"}};
        for (String old : before) {
            for (String[] term : after) {
                TypedTerms x = Notation.of(old);
                x.typeSize();
                x.items();
                x.clear();
                Notation.term(x, term[0]);
                Check.due(term[0] + " after " + old + " has", Notation.typeOf(x), term[1]);
                Check.due(term[0] + " after " + old + " is", Notation.valueOf(x), term[2]);
            }
        }
    }

    private static void clearLeavesTheTypes() {
        Check.sentence("clear: the stack of types is another one");
        TypedTerms x = Made.types(8, 8);
        x.clear();
        Check.due("a ninth type", x.type(0, 0), TypedTerms.FULL);
        x.leaf(0, 1);
        Check.due("fits", x.fits(), true);
        Check.due("untype", x.untype(), 8);
        TypedTerms y = Made.types(40, 1);
        y.clear();
        Check.due("a 41st type", y.type(5, 0), TypedTerms.FULL);
    }

    private static void depths() {
        Check.sentence("depth: the number on the stack of terms");
        TypedTerms x = new TypedTerms();
        for (int held = 0; held <= 8; held++) {
            Check.due("depth", x.depth(), held);
            Check.due("depth again", x.depth(), held);
            x.leaf(0, held);
        }
        Check.due("after a ninth leaf", x.depth(), 8);
        x.one(0, 0);
        Check.due("after one", x.depth(), 8);
        x.two(1, 0);
        Check.due("after two", x.depth(), 7);
        x.three(0, 0);
        Check.due("after three", x.depth(), 5);
        x.type(0, 0);
        Check.due("after type", x.depth(), 5);
        x.untype();
        Check.due("after untype", x.depth(), 5);
        x.drop();
        Check.due("after drop", x.depth(), 4);
        x.clear();
        Check.due("after clear", x.depth(), 0);
    }
}
