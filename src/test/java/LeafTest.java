/** Promise 2: leaf. */
public final class LeafTest {
    private LeafTest() {
    }

    public static void main(String[] args) {
        numbers();
        truths();
        names();
        empties();
        kinds();
        holdsEight();
        fortyMade();
        fortyOfAllSorts();
        badBeforeFull();
        answers();
        Check.end();
    }

    /** A leaf on a new object: its answer is 1 if it is in range, else BAD_ARG and no term. */
    private static void range(int kind, int k, boolean fine, int itemKind) {
        TypedTerms x = new TypedTerms();
        String call = "leaf " + kind + " " + k;
        Check.due(call, x.leaf(kind, k), fine ? 1 : TypedTerms.BAD_ARG);
        Check.due("depth after " + call, x.depth(), fine ? 1 : 0);
        if (itemKind >= 0) {
            Check.due("kind after " + call, x.kind(0), fine ? itemKind : TypedTerms.ILL);
            Check.due("number after " + call, x.number(0), fine ? k : 0);
        }
    }

    private static void numbers() {
        Check.sentence("leaf 0: number k (-99 to 99)");
        for (int k = -260; k <= 260; k++) {
            range(0, k, k >= -99 && k <= 99, 0);
        }
        int[] far = {Made.MIN, Made.MIN + 99, 65536, -65536, Made.MAX - 99, Made.MAX};
        for (int k : far) {
            range(0, k, false, 0);
        }
    }

    private static void truths() {
        Check.sentence("leaf 1: truth k (0 or 1)");
        int[] tried = {Made.MIN, -256, -99, -1, 0, 1, 2, 3, 99, 256, 257, Made.MAX};
        for (int k : tried) {
            range(1, k, k == 0 || k == 1, 1);
        }
    }

    private static void names() {
        Check.sentence("leaf 2: name k (0 to 7)");
        for (int k = -20; k <= 20; k++) {
            range(2, k, k >= 0 && k <= 7, -1);
        }
        int[] far = {Made.MIN, -256, 63, 64, 256, Made.MAX};
        for (int k : far) {
            range(2, k, false, -1);
        }
        for (int k = 0; k <= 7; k++) {
            TypedTerms x = new TypedTerms();
            x.leaf(2, k);
            Check.due("name " + k + " alone", x.typeSize(), TypedTerms.ILL);
            x.one(0, k);
            Check.due("name " + k + " in its function", Notation.typeOf(x), "2 10 10");
        }
    }

    private static void empties() {
        Check.sentence("leaf 3: empty (k does not matter)");
        int[] tried = {Made.MIN, -100, -1, 0, 1, 2, 7, 8, 99, 100, Made.MAX};
        for (int k : tried) {
            range(3, k, true, -1);
            TypedTerms x = new TypedTerms();
            x.leaf(3, k);
            Check.due("empty with " + k, Notation.valueOf(x), "4:0");
        }
    }

    private static void kinds() {
        Check.sentence("leaf: kind out of its range answers BAD_ARG");
        int[] bad = {Made.MIN, Made.MIN + 3, -256, -2, -1, 4, 5, 8, 256, 259, Made.MAX};
        for (int kind : bad) {
            range(kind, 0, false, -1);
            range(kind, 1, false, -1);
            range(kind, Made.MAX, false, -1);
        }
    }

    private static void holdsEight() {
        Check.sentence("leaf: it holds 8, answers FULL");
        for (int kind = 0; kind <= 3; kind++) {
            TypedTerms x = Made.terms(7, 7);
            Check.due("the eighth, kind " + kind, x.leaf(kind, 1), 8);
            Check.due("the ninth, kind " + kind, x.leaf(kind, 1), TypedTerms.FULL);
            Check.due("the tenth, kind " + kind, x.leaf(kind, 1), TypedTerms.FULL);
            Check.due("depth", x.depth(), 8);
            x.drop();
            Check.due("the eighth again, kind " + kind, x.leaf(kind, 1), 8);
        }
        TypedTerms x = Made.terms(8, 8);
        x.leaf(0, 9);
        Check.due("the top after a refused leaf", x.number(0), 8);
        x.drop();
        Check.due("what is below it", x.number(0), 7);
    }

    private static void fortyMade() {
        Check.sentence("leaf: 40 terms were made since the stack was last emptied by clear, FULL");
        for (int kind = 0; kind <= 3; kind++) {
            TypedTerms x = Made.terms(39, 0);
            Check.due("the 40th, kind " + kind, x.leaf(kind, 0), 1);
            Check.due("the 41st, kind " + kind, x.leaf(kind, 0), TypedTerms.FULL);
            x.drop();
            Check.due("the 41st on an empty stack, kind " + kind, x.leaf(kind, 0), TypedTerms.FULL);
            x.clear();
            Check.due("after clear, kind " + kind, x.leaf(kind, 0), 1);
        }
        Check.due("room of a new object", Made.room(new TypedTerms()), 40);
        TypedTerms x = Made.terms(25, 3);
        Check.due("room after 25", Made.room(x), 15);
        x.clear();
        Check.due("room after clear", Made.room(x), 40);
    }

    private static void fortyOfAllSorts() {
        Check.sentence("leaf: terms made by one, two and three count as well");
        TypedTerms x = new TypedTerms();
        Made.hold(x, 2);
        x.one(0, 0);
        x.two(1, 0);
        Made.hold(x, 2);
        x.three(0, 0);
        Check.due("room after 4 leaves and 3 others", Made.room(x), 33);
    }

    private static void badBeforeFull() {
        Check.sentence("leaf: tested in this order: BAD_ARG, FULL");
        TypedTerms[] full = {Made.terms(8, 8), Made.terms(40, 0), Made.terms(40, 8)};
        int[][] bad = {{-1, 0}, {4, 0}, {0, -100}, {0, 100}, {1, -1}, {1, 2}, {2, -1}, {2, 8}};
        for (TypedTerms x : full) {
            for (int[] b : bad) {
                Check.due("bad leaf " + b[0] + " " + b[1], x.leaf(b[0], b[1]), TypedTerms.BAD_ARG);
            }
            Check.due("a good leaf", x.leaf(3, 100), TypedTerms.FULL);
        }
    }

    private static void answers() {
        Check.sentence("leaf: otherwise the number on the stack");
        TypedTerms x = new TypedTerms();
        for (int i = 1; i <= 8; i++) {
            Check.due("leaf " + i, x.leaf(i % 4, 0), i);
        }
        x.clear();
        Check.due("leaf after clear", x.leaf(0, 0), 1);
        x.type(0, 0);
        Check.due("leaf beside a type", x.leaf(0, 0), 2);
    }
}
