import java.util.ArrayList;
import java.util.HashMap;
import java.util.List;
import java.util.Map;

/**
 * The rules by which a term HAS a type, taken as they stand: nothing is solved for. Where a rule
 * asks for some type that the term and its type do not tell, all types up to a size are tried.
 * What the rules give, fits must find, and meets too; what these find, the rules must give, as long
 * as terms are so small that the types tried are enough. The argument is how many binds are tried.
 */
public final class RulesTest {
    private record Term(int method, int kind, int k, List<Term> parts) {
    }

    /** A word is the symbol by which the type is written; parts that are not there are -1. */
    private record Type(int word, int left, int right) {
    }

    /** What a name has; the open variables are the bits of a number. */
    private record Names(int name, int type, int open, Names outer) {
    }

    private record Asked(Term bound, Names names) {
    }

    private static final int INT = 0;
    private static final int TRUTH = 1;
    private static final int ARROW = 2;
    private static final int PAIR = 3;
    private static final int LIST = 4;
    private static final int VARIABLE = 10;
    private static final int VARIABLES = 2;
    private static final int MAX_SMALL_TERM = 4;
    // How many symbols the types have that are tried for a part, that are tried for a bound term,
    // and that arrows and pairs made of what is tried may have at most.
    private static final int MAX_TRIED = 3;
    private static final int MAX_BOUND = 5;
    private static final int MAX_ASKED = 7;

    private static final int[][] LEAVES = {{0, 1}, {1, 1}, {2, 0}, {2, 1}, {3, 0}};
    private static final int[][] ONES = {{0, 0}, {0, 1}, {1, 0}, {1, 1}, {1, 8}, {2, 0}, {3, 0}};
    private static final int[][] TWOS = {{0, 0}, {1, 0}, {2, 0}, {3, 0}, {6, 0}, {8, 0}, {8, 1}};
    private static final int[][] THREES = {{0, 0}, {1, 1}, {1, 8}};

    private static final List<Type> TYPES = new ArrayList<>();
    private static final Map<Type, Integer> NUMBERS = new HashMap<>();
    private static final List<Integer> SIZES = new ArrayList<>();
    private static final List<Integer> VARIABLES_OF = new ArrayList<>();
    /** What was found for bound terms, kept since the same is asked for every type of a whole. */
    private static final Map<Asked, List<Integer>> BOUND = new HashMap<>();
    private static int tried;
    private static int triedForBound;

    private static int derived = 0;
    private static long seed = 20261115;

    private RulesTest() {
    }

    public static void main(String[] args) {
        makeTypes();
        List<List<Term>> terms = smallTerms();
        for (List<Term> ofOneSize : terms) {
            for (Term term : ofOneSize) {
                compareSmall(term);
            }
        }
        Check.due("enough types of small terms", derived > 2000, true);
        int more = args.length > 0 ? Integer.parseInt(args[0]) : 300;
        derived = 0;
        for (int i = 0; i < more; i++) {
            boolean inFunction = pick(3) > 0;
            Term x = pickTerm(terms, 3, inFunction ? 1 : 0, inFunction ? 1 : 0);
            Term y = pickTerm(terms, 4, inFunction ? 3 : 2, 2);
            Term bind = new Term(2, 8, 1, List.of(x, y));
            compareBind(inFunction ? new Term(1, 0, 0, List.of(bind)) : bind);
        }
        Check.due("enough types of binds", derived >= more, true);
        Check.end();
    }

    private static void compareSmall(Term term) {
        TypedTerms x = made(term);
        List<Integer> types = typesUpTo(tried, term);
        // The types tried are enough to tell that two types this small have no instance in common.
        boolean enough = x.typeSize() <= MAX_TRIED;
        for (int t = 0; t < tried; t++) {
            x.untype();
            pushType(x, t);
            boolean common = false;
            for (int u : types) {
                common |= isInstance(t, u, -1, new int[VARIABLES]);
            }
            Check.due(text(term) + " fits " + typeText(t), x.fits(), types.contains(t));
            if (common || enough) {
                Check.due(text(term) + " meets " + typeText(t), x.meets(), common);
            }
        }
    }

    private static void compareBind(Term term) {
        for (int t : typesUpTo(triedForBound, term)) {
            TypedTerms x = made(term);
            pushType(x, t);
            Check.due(text(term) + " fits " + typeText(t), x.fits(), true);
        }
    }

    private static List<Integer> typesUpTo(int end, Term term) {
        BOUND.clear();
        List<Integer> types = new ArrayList<>();
        for (int t = 0; t < end && standing(term) == 0; t++) {
            if (has(term, t, null)) {
                types.add(t);
            }
        }
        derived += types.size();
        return types;
    }

    // ---- types ----

    private static int type(int word, int left, int right) {
        Type wanted = new Type(word, left, right);
        Integer known = NUMBERS.get(wanted);
        if (known != null) {
            return known;
        }
        int size = 1;
        int variables = word >= VARIABLE ? 1 << word - VARIABLE : 0;
        if (left >= 0) {
            size += SIZES.get(left);
            variables |= VARIABLES_OF.get(left);
        }
        if (right >= 0) {
            size += SIZES.get(right);
            variables |= VARIABLES_OF.get(right);
        }
        NUMBERS.put(wanted, TYPES.size());
        TYPES.add(wanted);
        SIZES.add(size);
        VARIABLES_OF.add(variables);
        return TYPES.size() - 1;
    }

    private static void makeTypes() {
        type(INT, -1, -1);
        type(TRUTH, -1, -1);
        for (int v = 0; v < VARIABLES; v++) {
            type(VARIABLE + v, -1, -1);
        }
        for (int size = 2; size <= MAX_BOUND; size++) {
            int before = TYPES.size();
            for (int s = 0; s < before; s++) {
                if (SIZES.get(s) + 1 == size) {
                    type(LIST, s, -1);
                }
                for (int t = 0; t < before; t++) {
                    if (SIZES.get(s) + SIZES.get(t) + 1 == size) {
                        type(ARROW, s, t);
                        type(PAIR, s, t);
                    }
                }
            }
            if (size == MAX_TRIED) {
                tried = TYPES.size();
            }
        }
        triedForBound = TYPES.size();
    }

    // ---- the rules ----

    private static boolean has(Term term, int t, Names names) {
        List<Term> p = term.parts();
        switch (term.method()) {
            case 0:
                return leafHas(term, t, names);
            case 1:
                return term.kind() < 2 ? functionHas(term, t, names) : partHas(term, t, names);
            case 2:
                return twoHas(term, t, names);
            default:
                if (term.kind() == 0) {
                    return has(p.get(0), TRUTH, names) && has(p.get(1), t, names)
                            && has(p.get(2), t, names);
                }
                return splitHas(term, t, names);
        }
    }

    private static boolean leafHas(Term term, int t, Names names) {
        switch (term.kind()) {
            case 0:
                return t == INT;
            case 1:
                return t == TRUTH;
            case 2:
                Names found = names;
                while (found != null && found.name() != term.k()) {
                    found = found.outer();
                }
                return found != null && isInstance(found.type(), t, found.open(), new int[VARIABLES]);
            default:
                return TYPES.get(t).word() == LIST;
        }
    }

    /** Replaced has, for each open variable, 1 more than the type in its place, or 0. */
    private static boolean isInstance(int from, int to, int open, int[] replaced) {
        if (from < 0 || to < 0) {
            return from == to;
        }
        Type f = TYPES.get(from);
        int v = f.word() - VARIABLE;
        if (v >= 0 && (open >> v & 1) == 1) {
            boolean fresh = replaced[v] == 0;
            replaced[v] = fresh ? to + 1 : replaced[v];
            return replaced[v] == to + 1;
        }
        Type t = TYPES.get(to);
        return f.word() == t.word() && isInstance(f.left(), t.left(), open, replaced)
                && isInstance(f.right(), t.right(), open, replaced);
    }

    private static boolean functionHas(Term term, int t, Names names) {
        Type arrow = TYPES.get(t);
        if (arrow.word() != ARROW) {
            return false;
        }
        Names inner = names;
        if (term.kind() == 1) {
            inner = new Names(term.k() / 8, t, 0, inner);
        }
        inner = new Names(term.k() % 8, arrow.left(), 0, inner);
        return has(term.parts().get(0), arrow.right(), inner);
    }

    private static boolean partHas(Term term, int t, Names names) {
        for (int s = 0; s < tried; s++) {
            if (SIZES.get(s) + SIZES.get(t) < MAX_ASKED) {
                int pair = term.kind() == 2 ? type(PAIR, t, s) : type(PAIR, s, t);
                if (has(term.parts().get(0), pair, names)) {
                    return true;
                }
            }
        }
        return false;
    }

    private static boolean twoHas(Term term, int t, Names names) {
        Term x = term.parts().get(0);
        Term y = term.parts().get(1);
        Type type = TYPES.get(t);
        switch (term.kind()) {
            case 0:
                return applyHas(x, y, t, names);
            case 1:
                return type.word() == PAIR && has(x, type.left(), names) && has(y, type.right(), names);
            case 2:
                return type.word() == LIST && has(x, type.left(), names) && has(y, t, names);
            case 8:
                return bindHas(term, t, names);
            default:
                return t == (term.kind() < 6 ? INT : TRUTH) && has(x, INT, names) && has(y, INT, names);
        }
    }

    private static boolean applyHas(Term f, Term x, int t, Names names) {
        for (int s = 0; s < tried; s++) {
            if (SIZES.get(s) + SIZES.get(t) < MAX_ASKED && has(x, s, names)
                    && has(f, type(ARROW, s, t), names)) {
                return true;
            }
        }
        return false;
    }

    private static boolean bindHas(Term term, int t, Names names) {
        Term x = term.parts().get(0);
        int held = 0;
        int standing = standing(x);
        int hidden = 0;
        for (Names n = names; n != null; n = n.outer()) {
            int bit = 1 << n.name();
            if ((standing & bit) != 0 && (hidden & bit) == 0) {
                held |= VARIABLES_OF.get(n.type()) & ~n.open();
            }
            hidden |= bit;
        }
        for (int s : typesOf(x, names)) {
            int open = VARIABLES_OF.get(s) & ~held;
            if (has(term.parts().get(1), t, new Names(term.k(), s, open, names))) {
                return true;
            }
        }
        return false;
    }

    private static List<Integer> typesOf(Term bound, Names names) {
        Asked asked = new Asked(bound, names);
        List<Integer> types = BOUND.get(asked);
        if (types == null) {
            types = new ArrayList<>();
            for (int s = 0; s < triedForBound; s++) {
                if (has(bound, s, names)) {
                    types.add(s);
                }
            }
            BOUND.put(asked, types);
        }
        return types;
    }

    private static boolean splitHas(Term term, int t, Names names) {
        List<Term> p = term.parts();
        if (!has(p.get(1), t, names)) {
            return false;
        }
        for (int s = 0; s < tried; s++) {
            int list = type(LIST, s, -1);
            Names inner = new Names(term.k() % 8, list, 0, new Names(term.k() / 8, s, 0, names));
            if (has(p.get(0), list, names) && has(p.get(2), t, inner)) {
                return true;
            }
        }
        return false;
    }

    /** The names, as bits, that stand in a term outside of anything that binds them in it. */
    private static int standing(Term term) {
        int last = term.parts().size() - 1;
        int found = term.method() == 0 && term.kind() == 2 ? 1 << term.k() : 0;
        for (int i = 0; i <= last; i++) {
            int inPart = standing(term.parts().get(i));
            found |= i == last ? inPart & ~bound(term) : inPart;
        }
        return found;
    }

    private static int bound(Term term) {
        int k = term.k();
        int code = 10 * term.method() + term.kind();
        switch (code) {
            case 10:
            case 28:
                return 1 << k;
            case 11:
            case 31:
                return 1 << k / 8 | 1 << k % 8;
            default:
                return 0;
        }
    }

    // ---- terms ----

    /** All terms made of up to 4 terms, by their size, of two names and of kinds that differ. */
    private static List<List<Term>> smallTerms() {
        List<List<Term>> terms = new ArrayList<>();
        for (int size = 0; size <= MAX_SMALL_TERM; size++) {
            List<Term> made = new ArrayList<>();
            if (size == 1) {
                add(made, 0, LEAVES, List.of());
            }
            for (int a = 1; a < size; a++) {
                for (Term x : terms.get(a)) {
                    addAround(made, x, size - 1 - a, terms);
                }
            }
            terms.add(made);
        }
        return terms;
    }

    private static void addAround(List<Term> made, Term x, int left, List<List<Term>> terms) {
        if (left == 0) {
            add(made, 1, ONES, List.of(x));
            return;
        }
        for (Term y : terms.get(left)) {
            add(made, 2, TWOS, List.of(x, y));
        }
        for (int b = 1; b < left; b++) {
            for (Term y : terms.get(b)) {
                for (Term z : terms.get(left - b)) {
                    add(made, 3, THREES, List.of(x, y, z));
                }
            }
        }
    }

    private static void add(List<Term> made, int method, int[][] kinds, List<Term> parts) {
        for (int[] c : kinds) {
            made.add(new Term(method, c[0], c[1], parts));
        }
    }

    private static int pick(int bound) {
        seed = seed * 6364136223846793005L + 1442695040888963407L;
        return (int) ((seed >>> 33) % bound);
    }

    /** A term up to a size in which no other names stand than some, and some stand for certain. */
    private static Term pickTerm(List<List<Term>> terms, int size, int names, int certain) {
        for (int i = 0; i < 100000; i++) {
            List<Term> from = terms.get(1 + pick(size));
            Term term = from.get(pick(from.size()));
            int standing = standing(term);
            if ((standing & ~names) == 0 && (standing & certain) == certain) {
                return term;
            }
        }
        throw new IllegalStateException("the test finds no term");
    }

    private static TypedTerms made(Term term) {
        TypedTerms x = new TypedTerms();
        push(x, term);
        return x;
    }

    private static void push(TypedTerms x, Term term) {
        for (Term part : term.parts()) {
            push(x, part);
        }
        int answer;
        switch (term.method()) {
            case 0:
                answer = x.leaf(term.kind(), term.k());
                break;
            case 1:
                answer = x.one(term.kind(), term.k());
                break;
            case 2:
                answer = x.two(term.kind(), term.k());
                break;
            default:
                answer = x.three(term.kind(), term.k());
        }
        if (answer < 0) {
            throw new IllegalStateException("the test can't make " + text(term));
        }
    }

    private static void pushType(TypedTerms x, int t) {
        Type type = TYPES.get(t);
        if (type.left() >= 0) {
            pushType(x, type.left());
        }
        if (type.right() >= 0) {
            pushType(x, type.right());
        }
        if (type.word() >= VARIABLE) {
            x.type(2, type.word() - VARIABLE);
        } else {
            x.type(type.word() < ARROW ? type.word() : type.word() + 1, 0);
        }
    }

    private static String text(Term term) {
        String parts = "";
        for (Term part : term.parts()) {
            parts += " " + text(part);
        }
        return "(" + term.method() + "." + term.kind() + "." + term.k() + parts + ")";
    }

    private static String typeText(int t) {
        Type type = TYPES.get(t);
        return type.word() + (type.left() < 0 ? "" : " " + typeText(type.left()))
                + (type.right() < 0 ? "" : " " + typeText(type.right()));
    }
}
