import java.util.ArrayList;
import java.util.HashMap;
import java.util.List;
import java.util.Map;
import java.util.function.IntUnaryOperator;

/**
 * Makes terms for a type that is wanted, so that most of them are typed; a few leaves are put in
 * without care, so that some are not. A term is a list of calls: leaf to three as 0 to 3, with the
 * two arguments.
 */
final class Generator {
    /** A type that a term is made for. */
    private record Wish(String word, Wish left, Wish right) {
    }

    private static final Wish INT = new Wish("int", null, null);
    private static final Wish TRUTH = new Wish("truth", null, null);
    /** The name stands for a function from any type to the same one, or to a pair, by its word. */
    private static final Wish SAME = new Wish("same", null, null);
    private static final Wish TWICE = new Wish("twice", null, null);
    private static final int USED_NAMES = 4;

    private final IntUnaryOperator pick;
    private List<int[]> made = new ArrayList<>();
    private int binds = 0;
    private int careless = 0;

    Generator(IntUnaryOperator pick) {
        this.pick = pick;
    }

    List<int[]> term() {
        for (int tries = 0; tries < 1000; tries++) {
            made = new ArrayList<>();
            binds = 0;
            careless = pick(3) == 0 ? 15 : 1000000;
            make(wish(2), new HashMap<>(), 2 + pick(5));
            if (made.size() <= 40 && binds <= 3 && height() <= 8) {
                return made;
            }
        }
        return List.of(new int[] {0, 0, 1});
    }

    private int pick(int bound) {
        return pick.applyAsInt(bound);
    }

    private int height() {
        int now = 0;
        int most = 0;
        for (int[] c : made) {
            now += 1 - c[0];
            most = Math.max(most, now);
        }
        return most;
    }

    private void call(int method, int kind, int k) {
        made.add(new int[] {method, kind, k});
    }

    private Wish wish(int fuel) {
        int chosen = fuel == 0 ? pick(2) : pick(6);
        switch (chosen) {
            case 0:
                return INT;
            case 1:
                return TRUTH;
            case 2:
            case 3:
                return new Wish("arrow", wish(fuel - 1), wish(fuel - 1));
            case 4:
                return new Wish("pair", wish(fuel - 1), wish(fuel - 1));
            default:
                return new Wish("list", wish(fuel - 1), null);
        }
    }

    private static Map<Integer, Wish> with(Map<Integer, Wish> names, int name, Wish wish) {
        Map<Integer, Wish> more = new HashMap<>(names);
        more.put(name, wish);
        return more;
    }

    private void make(Wish wish, Map<Integer, Wish> names, int fuel) {
        if (pick(careless) == 0) {
            call(0, 2, pick(USED_NAMES));
            return;
        }
        if (useName(wish, names)) {
            return;
        }
        if (fuel <= 0 || pick(4) == 0) {
            introduce(wish, names, fuel - 1);
            return;
        }
        eliminate(wish, names, fuel - 1);
    }

    private boolean useName(Wish wish, Map<Integer, Wish> names) {
        for (int name = 0; name < USED_NAMES; name++) {
            if (wish.equals(names.get(name)) && pick(2) == 0) {
                call(0, 2, name);
                return true;
            }
        }
        return false;
    }

    private void introduce(Wish wish, Map<Integer, Wish> names, int fuel) {
        int x = pick(USED_NAMES);
        switch (wish.word()) {
            case "int":
                call(0, 0, pick(9) - 3);
                break;
            case "truth":
                call(0, 1, pick(2));
                break;
            case "pair":
                make(wish.left(), names, fuel);
                make(wish.right(), names, fuel);
                call(2, 1, 0);
                break;
            case "list":
                if (fuel < 0 || pick(3) == 0) {
                    call(0, 3, 0);
                } else {
                    make(wish.left(), names, fuel);
                    make(wish, names, fuel);
                    call(2, 2, 0);
                }
                break;
            default:
                if (pick(3) == 0) {
                    int f = pick(USED_NAMES);
                    make(wish.right(), with(with(names, f, wish), x, wish.left()), fuel);
                    call(1, 1, 8 * f + x);
                } else {
                    make(wish.right(), with(names, x, wish.left()), fuel);
                    call(1, 0, x);
                }
        }
    }

    private void eliminate(Wish wish, Map<Integer, Wish> names, int fuel) {
        switch (pick(8)) {
            case 0: {
                Wish argument = wish(1);
                make(new Wish("arrow", argument, wish), names, fuel);
                make(argument, names, fuel);
                call(2, 0, 0);
                break;
            }
            case 1:
                bindAny(wish, names, fuel);
                break;
            case 2:
                make(TRUTH, names, fuel);
                make(wish, names, fuel);
                make(wish, names, fuel);
                call(3, 0, 0);
                break;
            case 3:
                splitAny(wish, names, fuel);
                break;
            case 4: {
                boolean first = pick(2) == 0;
                Wish other = wish(1);
                make(new Wish("pair", first ? wish : other, first ? other : wish), names, fuel);
                call(1, first ? 2 : 3, 0);
                break;
            }
            case 5:
                bindOpen(wish, names, fuel);
                break;
            case 6:
                applyOpen(wish, names, fuel);
                break;
            default:
                calculate(wish, names, fuel);
        }
    }

    private void calculate(Wish wish, Map<Integer, Wish> names, int fuel) {
        if (!wish.equals(INT) && !wish.equals(TRUTH)) {
            introduce(wish, names, fuel);
            return;
        }
        make(INT, names, fuel);
        make(INT, names, fuel);
        call(2, wish.equals(INT) ? 3 + pick(3) : 6 + pick(2), 0);
    }

    private void bindAny(Wish wish, Map<Integer, Wish> names, int fuel) {
        Wish bound = wish(2);
        int x = pick(USED_NAMES);
        make(bound, names, fuel);
        make(wish, with(names, x, bound), fuel);
        call(2, 8, x);
        binds++;
    }

    private void splitAny(Wish wish, Map<Integer, Wish> names, int fuel) {
        Wish element = wish(1);
        Wish list = new Wish("list", element, null);
        int h = pick(USED_NAMES);
        int t = (h + 1 + pick(USED_NAMES - 1)) % USED_NAMES;
        make(list, names, fuel);
        make(wish, names, fuel);
        make(wish, with(with(names, h, element), t, list), fuel);
        call(3, 1, 8 * h + t);
    }

    /** Binds a function whose type has open variables, and perhaps some that are not. */
    private void bindOpen(Wish wish, Map<Integer, Wish> names, int fuel) {
        int x = pick(USED_NAMES);
        int y = pick(USED_NAMES);
        boolean twice = pick(2) == 0;
        call(0, 2, x);
        if (twice) {
            call(0, 2, pick(4) == 0 ? pick(USED_NAMES) : x);
            call(2, 1, 0);
        }
        call(1, 0, x);
        make(wish, with(names, y, twice ? TWICE : SAME), fuel);
        call(2, 8, y);
        binds++;
    }

    private void applyOpen(Wish wish, Map<Integer, Wish> names, int fuel) {
        for (int name = 0; name < USED_NAMES; name++) {
            Wish known = names.get(name);
            if (SAME.equals(known)) {
                call(0, 2, name);
                make(wish, names, fuel);
                call(2, 0, 0);
                return;
            }
            if (TWICE.equals(known)) {
                call(0, 2, name);
                make(wish, names, fuel);
                call(2, 0, 0);
                call(1, 2 + pick(2), 0);
                return;
            }
        }
        introduce(wish, names, fuel);
    }
}
