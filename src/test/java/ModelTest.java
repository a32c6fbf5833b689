import java.util.ArrayList;
import java.util.List;

/** All promises: the program and the model get the same calls and must give the same answers. */
public final class ModelTest {
    private static final String[] CALLS = {"leaf", "one", "two", "three", "type", "symbol", "kind",
        "number", "drop", "clear", "depth", "untype", "typeSize", "variables", "fits", "meets",
        "typed", "items", "steps"};
    private static final int MAX_CALLS = 512;

    /** A call with its arguments. */
    private record Call(String name, int a, int b) {
        @Override
        public String toString() {
            return name + "(" + a + ", " + b + ")";
        }
    }

    private static TypedTerms program = new TypedTerms();
    private static Model model = new Model();
    private static int calls = 0;
    private static long state = 1;
    private static long typedTops = 0;
    private static long tooLarge = 0;
    private static final List<String> HISTORY = new ArrayList<>();

    private ModelTest() {
    }

    public static void main(String[] args) {
        int scale = args.length > 0 ? Integer.parseInt(args[0]) : 1;
        state = args.length > 1 ? Long.parseLong(args[1]) : 1;
        for (int size = 1; size <= (scale > 1 ? 5 : 4); size++) {
            smallTerms(size);
        }
        for (int i = 0; i < 4000 * scale; i++) {
            generatedTerm();
        }
        for (int i = 0; i < 300 * scale; i++) {
            anyCalls();
        }
        System.out.println(typedTops + " typed tops, " + tooLarge + " answers too large for the model");
        Check.end();
    }

    // ---- making calls ----

    private static void fresh() {
        program = new TypedTerms();
        model = new Model();
        calls = 0;
        HISTORY.clear();
    }

    private static int ofProgram(Call c) {
        return switch (c.name()) {
            case "leaf" -> program.leaf(c.a(), c.b());
            case "one" -> program.one(c.a(), c.b());
            case "two" -> program.two(c.a(), c.b());
            case "three" -> program.three(c.a(), c.b());
            case "type" -> program.type(c.a(), c.b());
            case "symbol" -> program.symbol(c.a());
            case "kind" -> program.kind(c.a());
            case "number" -> program.number(c.a());
            case "drop" -> program.drop();
            case "clear" -> {
                program.clear();
                yield 0;
            }
            case "depth" -> program.depth();
            case "untype" -> program.untype();
            case "typeSize" -> program.typeSize();
            case "variables" -> program.variables();
            case "fits" -> program.fits() ? 1 : 0;
            case "meets" -> program.meets() ? 1 : 0;
            case "typed" -> program.typed();
            case "items" -> program.items();
            default -> program.steps();
        };
    }

    private static int ofModel(Call c) {
        return switch (c.name()) {
            case "leaf" -> model.leaf(c.a(), c.b());
            case "one" -> model.one(c.a(), c.b());
            case "two" -> model.two(c.a(), c.b());
            case "three" -> model.three(c.a(), c.b());
            case "type" -> model.type(c.a(), c.b());
            case "symbol" -> model.symbol(c.a());
            case "kind" -> model.kind(c.a());
            case "number" -> model.number(c.a());
            case "drop" -> model.drop();
            case "clear" -> model.clear();
            case "depth" -> model.depth();
            case "untype" -> model.untype();
            case "typeSize" -> model.typeSize();
            case "variables" -> model.variables();
            case "fits" -> model.fits();
            case "meets" -> model.meets();
            case "typed" -> model.typed();
            case "items" -> model.items();
            default -> model.steps();
        };
    }

    private static int call(String name, int a, int b) {
        Call c = new Call(name, a, b);
        calls++;
        int got = ofProgram(c);
        HISTORY.add(c.toString());
        try {
            int want = ofModel(c);
            Check.due(got == want ? "" : HISTORY + " at the end", got, want);
        } catch (Model.TooLarge e) {
            tooLarge++;
        }
        return got;
    }

    /** Asks what can be asked about the top; leaves the term, but not the types. */
    private static void ask() {
        int size = call("typeSize", 0, 0);
        if (size != TypedTerms.ILL) {
            typedTops++;
        }
        call("variables", 0, 0);
        int symbols = Math.min(size, 12);
        for (int i = 0; i <= symbols; i++) {
            call("symbol", i, 0);
        }
        int items = call("items", 0, 0);
        for (int i = 0; i <= Math.min(items, 12); i++) {
            call("kind", i, 0);
            call("number", i, 0);
        }
        call("kind", items - 1, 0);
        call("number", items - 1, 0);
        call("symbol", size - 1, 0);
        call("steps", 0, 0);
        call("typed", 0, 0);
        compareTypes(size);
    }

    private static void compareTypes(int size) {
        call("untype", 0, 0);
        // Either a type near that of the term, or any one.
        if (size > 0 && size <= 20 && pick(3) > 0) {
            pushLike(0, 4 + pick(8));
        } else {
            pushAnyType(3);
        }
        call("fits", 0, 0);
        call("meets", 0, 0);
    }

    /** Pushes the type of the top from symbol i on, changed here and there; answers the next i. */
    private static int pushLike(int i, int oddity) {
        int symbol = program.symbol(i);
        if (pick(oddity) == 0) {
            pushAnyType(2);
            return skip(i);
        }
        if (symbol <= 1) {
            call("type", symbol, 0);
            return i + 1;
        }
        if (symbol >= 10) {
            call("type", 2, Math.min(symbol - 10, 3));
            return i + 1;
        }
        int next = pushLike(i + 1, oddity);
        if (symbol != 4) {
            next = pushLike(next, oddity);
        }
        call("type", symbol + 1, 0);
        return next;
    }

    private static int skip(int i) {
        int open = 1;
        int at = i;
        while (open > 0) {
            int symbol = program.symbol(at);
            open += symbol == 2 || symbol == 3 ? 1 : symbol == 4 ? 0 : -1;
            at++;
        }
        return at;
    }

    private static void pushAnyType(int fuel) {
        int kind = fuel == 0 ? pick(3) : pick(6);
        if (kind >= 3) {
            pushAnyType(fuel - 1);
            if (kind != 5) {
                pushAnyType(fuel - 1);
            }
        }
        call("type", kind, pick(4));
    }

    // ---- numbers that are the same in every run ----

    private static int pick(int bound) {
        state = state * 6364136223846793005L + 1442695040888963407L;
        return (int) ((state >>> 33) % bound);
    }

    // ---- every term of a size, in several surroundings ----

    private static void smallTerms(int size) {
        for (List<Call> term : allTerms(size)) {
            for (int around = 0; around < 4; around++) {
                if (calls > MAX_CALLS - 150) {
                    fresh();
                }
                call("clear", 0, 0);
                HISTORY.clear();
                if (around == 2) {
                    make(List.of(new Call("leaf", 2, 0), new Call("one", 0, 0)));
                }
                make(term);
                surround(around);
                ask();
            }
        }
    }

    private static void surround(int around) {
        switch (around) {
            case 1 -> make(List.of(new Call("one", 0, 0), new Call("one", 0, 1)));
            case 2 -> make(List.of(new Call("one", 0, 1), new Call("two", 8, 0)));
            case 3 -> make(List.of(new Call("one", 1, 1)));
            default -> {
            }
        }
    }

    private static void make(List<Call> made) {
        for (Call c : made) {
            call(c.name(), c.a(), c.b());
        }
    }

    private static List<List<Call>> allTerms(int size) {
        List<List<Call>> found = new ArrayList<>();
        if (size == 1) {
            int[][] leaves = {{0, 3}, {1, 1}, {2, 0}, {2, 1}, {3, 0}};
            for (int[] l : leaves) {
                found.add(List.of(new Call("leaf", l[0], l[1])));
            }
            return found;
        }
        int[][] ones = {{0, 0}, {0, 1}, {1, 1}, {1, 0}, {2, 0}, {3, 0}};
        for (List<Call> x : allTerms(size - 1)) {
            for (int[] o : ones) {
                found.add(joined(new Call("one", o[0], o[1]), x));
            }
        }
        int[][] twos = {{0, 0}, {1, 0}, {2, 0}, {4, 0}, {7, 0}, {8, 0}, {8, 1}};
        for (int left = 1; left < size - 1; left++) {
            for (List<Call> x : allTerms(left)) {
                for (List<Call> y : allTerms(size - 1 - left)) {
                    for (int[] t : twos) {
                        found.add(joined(new Call("two", t[0], t[1]), x, y));
                    }
                }
            }
        }
        int[][] threes = {{0, 0}, {1, 1}};
        for (int left = 1; left < size - 2; left++) {
            for (int middle = 1; middle < size - 1 - left; middle++) {
                for (List<Call> x : allTerms(left)) {
                    for (List<Call> y : allTerms(middle)) {
                        for (List<Call> z : allTerms(size - 1 - left - middle)) {
                            for (int[] t : threes) {
                                found.add(joined(new Call("three", t[0], t[1]), x, y, z));
                            }
                        }
                    }
                }
            }
        }
        return found;
    }

    @SafeVarargs
    private static List<Call> joined(Call last, List<Call>... parts) {
        List<Call> all = new ArrayList<>();
        for (List<Call> part : parts) {
            all.addAll(part);
        }
        all.add(last);
        return all;
    }

    // ---- larger terms, most of which are typed ----

    private static void generatedTerm() {
        fresh();
        Generator generator = new Generator(ModelTest::pick);
        for (int[] c : generator.term()) {
            String[] names = {"leaf", "one", "two", "three"};
            call(names[c[0]], c[1], c[2]);
        }
        ask();
        compareTypes(program.typeSize());
    }

    // ---- any calls at all ----

    private static void anyCalls() {
        fresh();
        while (calls < MAX_CALLS - 1) {
            String name = CALLS[pick(pick(3) == 0 ? CALLS.length : 5)];
            // The stack of terms is emptied now and then, or no term would be made any more.
            if (name.equals("clear") && pick(2) == 0 || name.equals("untype") && pick(3) > 0) {
                continue;
            }
            call(name, pick(12) == 0 ? pick(300) - 100 : pick(name.equals("two") ? 9 : 4),
                    pick(12) == 0 ? pick(300) - 120 : pick(name.equals("three") ? 64 : 8));
        }
    }
}
