import java.util.ArrayList;
import java.util.LinkedHashMap;
import java.util.List;
import java.util.Map;
import java.util.function.Function;
import java.util.function.Supplier;
import java.util.function.ToIntFunction;

/**
 * No call ever throws. A refused call answers the code named and changes nothing.
 *
 * <p>Every state is made twice, and in the one of them all calls of a method that are refused there
 * are made as well; whatever can be seen of the two afterwards must be the same.
 */
public final class RefusedCallsTest {
    private static final int[] KINDS = {Made.MIN, -1, 0, 1, 2, 3, 4, 5, 6, 7, 8, 9, Made.MAX};
    private static final int[] ARGUMENTS = {Made.MIN, -100, -1, 0, 1, 4, 7, 8, 9, 63, 64, 100,
        Made.MAX};
    private static final int[] PLACES = {Made.MIN, -1, 0, 1, 199, 200, 201, Made.MAX};
    private static final int ANSWERED = 0;

    private static final Map<String, Supplier<TypedTerms>> STATES = new LinkedHashMap<>();
    private static final Map<String, List<ToIntFunction<TypedTerms>>> CALLS = new LinkedHashMap<>();
    private static final Map<String, Function<TypedTerms, String>> VIEWS = new LinkedHashMap<>();

    private RefusedCallsTest() {
    }

    public static void main(String[] args) {
        addStates();
        addCalls();
        addViews();
        Check.sentence("no call ever throws; a refused call changes nothing");
        for (String state : STATES.keySet()) {
            for (String method : CALLS.keySet()) {
                callsOf(method, state);
            }
        }
        Check.end();
    }

    private static void callsOf(String method, String state) {
        Supplier<TypedTerms> make = STATES.get(state);
        List<ToIntFunction<TypedTerms>> refused = new ArrayList<>();
        TypedTerms x = make.get();
        for (ToIntFunction<TypedTerms> call : CALLS.get(method)) {
            int answer = answerOf(method + " when " + state, call, x);
            if (answer < 0) {
                refused.add(call);
            } else {
                x = make.get();
            }
        }
        if (!refused.isEmpty()) {
            compare(method + " when " + state, make, refused);
        }
    }

    private static int answerOf(String name, ToIntFunction<TypedTerms> call, TypedTerms x) {
        try {
            return call.applyAsInt(x);
        } catch (RuntimeException e) {
            Check.due(name, "" + e, "no exception");
            return ANSWERED;
        }
    }

    private static void compare(String name, Supplier<TypedTerms> make,
            List<ToIntFunction<TypedTerms>> refused) {
        Map<String, Function<TypedTerms, String>> views = new LinkedHashMap<>(VIEWS);
        addViewsOfTypes(views, make.get().untype());
        for (String view : views.keySet()) {
            TypedTerms before = make.get();
            TypedTerms after = make.get();
            int again = 0;
            for (ToIntFunction<TypedTerms> call : refused) {
                again += call.applyAsInt(after) < 0 ? 1 : 0;
            }
            Check.due(name + ", refused again", again, refused.size());
            Check.due(view + " after " + refused.size() + " refused " + name,
                    views.get(view).apply(after), views.get(view).apply(before));
        }
    }

    // ---- the states ----

    private static void state(String name, Supplier<TypedTerms> make) {
        STATES.put(name, make);
    }

    private static TypedTerms with(TypedTerms x, String... types) {
        for (String type : types) {
            Notation.type(x, type);
        }
        return x;
    }

    private static TypedTerms terms(String... terms) {
        TypedTerms x = new TypedTerms();
        for (String term : terms) {
            Notation.term(x, term);
        }
        return x;
    }

    private static void addStates() {
        String tired = "(app (own a b (app a b)) 1)";
        String far = Notation.doubledTenTimes("1");
        state("new", TypedTerms::new);
        for (int held = 1; held <= 3; held++) {
            int h = held;
            state(held + " held", () -> with(Made.terms(h, h), "int"));
            state(held + " held of 40", () -> with(Made.terms(40, h), "(list v1)", "int"));
            state(held + " held after 3 binds", () -> with(Made.binds(3, h), "truth"));
        }
        state("8 held", () -> with(Made.terms(8, 8), "int", "truth"));
        state("8 held of 40", () -> Made.terms(40, 8));
        state("none held of 40", () -> with(Made.terms(40, 0), "int"));
        state("none held of 39", () -> with(Made.terms(39, 0), "int"));
        state("none held after 3 binds", () -> with(Made.binds(3, 0), "int"));
        state("1 type", () -> Made.types(1, 1));
        state("8 types", () -> with(new TypedTerms(), "int", "truth", "(list int)", "(* int v0)",
                "(-> int v3)", "v2", "truth", "int"));
        state("40 types, 1 held", () -> Made.types(40, 1));
        state("40 types, 8 held", () -> Made.types(40, 8));
        state("an ill top", () -> with(terms("(pair 1 true)", "(add 1 true)"), "(* int truth)"));
        state("a name on top", () -> with(terms("nil", "3", "a"), "(list v0)", "v1"));
        state("a tired top", () -> with(terms("4", tired), "v0"));
        state("a long top", () -> with(terms("(fun a a)", far), "(* v0 v0)"));
        state("many sorts", () -> with(terms("(fun a (pair a 1))", "a", tired, "(pair nil -9)",
                "(let a (fun b b) (app a a))"), "int", "(-> v0 (* v0 int))", "(-> v1 v1)"));
    }

    // ---- the calls ----

    private interface TwoArguments {
        int answer(TypedTerms x, int kind, int k);
    }

    private interface OneArgument {
        int answer(TypedTerms x, int i);
    }

    private static void addCalls() {
        addOf("leaf", TypedTerms::leaf);
        addOf("one", TypedTerms::one);
        addOf("two", TypedTerms::two);
        addOf("three", TypedTerms::three);
        addOf("type", TypedTerms::type);
        addAt("symbol", TypedTerms::symbol);
        addAt("kind", TypedTerms::kind);
        // What these answer is no code, but to ask must change nothing either.
        addAt("number", (x, i) -> asked(y -> y.number(i), x));
        add("drop", TypedTerms::drop);
        add("depth", x -> asked(TypedTerms::depth, x));
        add("typeSize", x -> asked(TypedTerms::typeSize, x));
        add("variables", x -> asked(TypedTerms::variables, x));
        add("fits", x -> asked(y -> y.fits() ? 1 : 0, x));
        add("meets", x -> asked(y -> y.meets() ? 1 : 0, x));
        add("typed", x -> asked(TypedTerms::typed, x));
        add("items", x -> asked(TypedTerms::items, x));
        add("steps", x -> asked(TypedTerms::steps, x));
        add("clear", x -> {
            x.clear();
            return ANSWERED;
        });
        add("untype", TypedTerms::untype);
    }

    private static int asked(ToIntFunction<TypedTerms> question, TypedTerms x) {
        question.applyAsInt(x);
        return -1;
    }

    private static void add(String name, ToIntFunction<TypedTerms> call) {
        CALLS.computeIfAbsent(name, n -> new ArrayList<>()).add(call);
    }

    private static void addOf(String name, TwoArguments call) {
        for (int kind : KINDS) {
            for (int k : ARGUMENTS) {
                add(name, x -> call.answer(x, kind, k));
            }
        }
    }

    private static void addAt(String name, OneArgument call) {
        for (int i : PLACES) {
            add(name, x -> call.answer(x, i));
        }
    }

    // ---- what can be seen ----

    private static void addViews() {
        VIEWS.put("types of the terms", x -> ofEach(x, y -> y.typeSize() + "," + y.symbol(0) + ","
                + y.symbol(1) + "," + y.symbol(2) + "," + y.variables() + "," + y.typed()));
        VIEWS.put("values of the terms", x -> ofEach(x, y -> y.items() + "," + y.kind(0) + ","
                + y.number(0) + "," + y.number(1) + "," + y.number(2) + "," + y.steps()));
        VIEWS.put("fits of the terms", x -> ofEach(x, y -> y.fits() + "," + y.meets()));
        VIEWS.put("room on the stack", RefusedCallsTest::leaves);
        VIEWS.put("room for terms", x -> ofEach(x, y -> "") + Made.room(x));
        VIEWS.put("room for binds", x -> ofEach(x, y -> "") + Made.roomForBinds(x));
        VIEWS.put("room for types", RefusedCallsTest::roomForTypes);
    }

    /** Looks at the top, drops it, and so on down to the empty stack. */
    private static String ofEach(TypedTerms x, Function<TypedTerms, String> look) {
        StringBuilder seen = new StringBuilder();
        do {
            seen.append(x.depth()).append(": ").append(look.apply(x)).append("; ");
        } while (x.drop() >= 0);
        return seen.toString();
    }

    private static String leaves(TypedTerms x) {
        StringBuilder seen = new StringBuilder();
        for (int i = 0; i <= 8; i++) {
            seen.append(x.leaf(0, i)).append(' ');
        }
        return seen.toString();
    }

    private static String roomForTypes(TypedTerms x) {
        StringBuilder seen = new StringBuilder();
        for (int i = 0; i <= 8; i++) {
            seen.append(x.type(0, 0)).append(' ');
        }
        for (int i = 0; i <= 40; i++) {
            seen.append(x.type(5, 0)).append(' ');
        }
        return seen.append(x.untype()).toString();
    }

    /**
     * Joins all types of the stack to S -> (T -> ..). It is compared with the types of functions of
     * so many arguments that use the last of them as an int, a truth, a list, a pair or a function,
     * or answer one of these.
     */
    private static void addViewsOfTypes(Map<String, Function<TypedTerms, String>> views, int held) {
        List<String> uses = List.of("(add N 1)", "(if N 1 1)", "(split L M N 1 1)", "(fst N)",
                "(app N 1)");
        for (int arguments = 1; arguments < held; arguments++) {
            for (String use : uses) {
                addViewOfType(views, arguments, "(snd (pair " + use + " W))");
            }
        }
        for (String body : List.of("1", "true", "nil", "(pair W W)", "(fun a W)")) {
            addViewOfType(views, held - 1, body);
        }
    }

    private static void addViewOfType(Map<String, Function<TypedTerms, String>> views, int arguments,
            String body) {
        String names = "abcdefgh";
        // W has every type.
        String term = body.replace("W", "(app (own a b (app a b)) 1)")
                .replace('N', names.charAt((arguments + 7) % 8))
                .replace('L', names.charAt((arguments + 8) % 8))
                .replace('M', names.charAt((arguments + 9) % 8));
        for (int i = arguments - 1; i >= 0; i--) {
            term = "(fun " + names.charAt(i) + " " + term + ")";
        }
        String compared = term;
        views.put("the joined types and " + compared, x -> {
            for (int i = 0; i < 8; i++) {
                x.type(3, 0);
            }
            x.clear();
            Notation.term(x, compared);
            return x.fits() + " " + x.meets();
        });
    }
}
