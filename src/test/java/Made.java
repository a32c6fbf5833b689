/** Objects whose stacks and counts stand at a bound, and numbers at which arguments go wrong. */
final class Made {
    static final int MIN = Integer.MIN_VALUE;
    static final int MAX = Integer.MAX_VALUE;

    private Made() {
    }

    /** An object that has made so many terms and holds some of them: the numbers 1, 2, .. */
    static TypedTerms terms(int made, int held) {
        TypedTerms x = new TypedTerms();
        more(x, made - held);
        hold(x, held);
        return x;
    }

    /** An object that has made so many binds, all of them dropped, and holds 1, 2, .. */
    static TypedTerms binds(int binds, int held) {
        TypedTerms x = new TypedTerms();
        for (int i = 0; i < binds; i++) {
            hold(x, 2);
            x.two(8, 0);
            x.drop();
        }
        hold(x, held);
        return x;
    }

    /** An object that has made so many types and holds some of them: [int], int, int, .. */
    static TypedTerms types(int made, int held) {
        TypedTerms x = new TypedTerms();
        for (int i = 0; i < held; i++) {
            x.type(0, 0);
        }
        for (int i = held; i < made; i++) {
            x.type(5, 0);
        }
        return x;
    }

    static void hold(TypedTerms x, int held) {
        for (int i = 1; i <= held; i++) {
            x.leaf(0, i);
        }
    }

    /** Makes terms and drops them: they count although they are gone. */
    static void more(TypedTerms x, int terms) {
        for (int i = 0; i < terms; i++) {
            x.leaf(3, 0);
            x.drop();
        }
    }

    /** How many leaves can be made, each dropped at once, before one is refused. */
    static int room(TypedTerms x) {
        int room = 0;
        while (room < 100 && x.leaf(3, 0) > 0) {
            x.drop();
            room++;
        }
        return room;
    }

    /** How many binds can be made before one is refused. */
    static int roomForBinds(TypedTerms x) {
        int room = 0;
        hold(x, 2);
        while (room < 10 && x.two(8, 0) > 0) {
            hold(x, 1);
            room++;
        }
        return room;
    }
}
