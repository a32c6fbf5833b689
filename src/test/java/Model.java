import java.util.ArrayList;
import java.util.HashMap;
import java.util.HashSet;
import java.util.List;
import java.util.Map;
import java.util.Set;

/**
 * The document once more, rule by rule, with objects and recursion in place of numbers and loops.
 * It shares nothing with the program, so that where the two agree neither is likely to be wrong.
 */
final class Model {
    /** A type is too large to be written out as a tree; then the model has no answer. */
    static final class TooLarge extends RuntimeException {
        private static final long serialVersionUID = 1L;
    }

    private static final class Ill extends RuntimeException {
        private static final long serialVersionUID = 1L;
    }

    private static final class Tired extends RuntimeException {
        private static final long serialVersionUID = 1L;
    }

    private record Term(String word, int k, List<Term> parts) {
    }

    private record Type(String word, int variable, List<Type> parts) {
    }

    private record Scheme(Type type, Set<Integer> open) {
    }

    private record Closure(Term term, Map<Integer, Object> names) {
    }

    private record Two(Object first, Object second) {
    }

    private static final String[] LEAVES = {"number", "truth", "name", "empty"};
    private static final String[] ONES = {"function", "own", "first", "second"};
    private static final String[] TWOS =
        {"apply", "pair", "cons", "add", "sub", "mul", "less", "equal", "bind"};
    private static final String[] THREES = {"choose", "split"};
    private static final String[] TYPES = {"int", "truth", "variable", "arrow", "pair", "list"};
    private static final Type INT = new Type("int", 0, List.of());
    private static final Type TRUTH = new Type("truth", 0, List.of());
    private static final int MAX_WORK = 100000;

    private final List<Term> terms = new ArrayList<>();
    private final List<Type> types = new ArrayList<>();
    private int termsMade = 0;
    private int bindsMade = 0;
    private int typesMade = 0;

    private Map<Integer, Type> replaced = new HashMap<>();
    private int nextVariable = 0;
    private int work = 0;
    private int steps = 0;

    // ---- the stacks ----

    int leaf(int kind, int k) {
        boolean good = kind == 0 && Math.abs((long) k) <= 99 || kind == 1 && (k == 0 || k == 1)
                || kind == 2 && k >= 0 && k <= 7 || kind == 3;
        if (!good) {
            return TypedTerms.BAD_ARG;
        }
        if (termsMade == 40 || terms.size() == 8) {
            return TypedTerms.FULL;
        }
        return push(LEAVES[kind], k, 0);
    }

    int one(int kind, int k) {
        boolean good = kind == 0 && k >= 0 && k <= 7 || kind == 1 && k >= 0 && k <= 63
                || kind == 2 || kind == 3;
        if (!good) {
            return TypedTerms.BAD_ARG;
        }
        return termsMade == 40 ? TypedTerms.FULL : push(ONES[kind], k, 1);
    }

    int two(int kind, int k) {
        if (kind < 0 || kind > 8 || kind == 8 && (k < 0 || k > 7)) {
            return TypedTerms.BAD_ARG;
        }
        if (termsMade == 40 || kind == 8 && bindsMade == 3) {
            return TypedTerms.FULL;
        }
        int answer = push(TWOS[kind], k, 2);
        if (answer > 0 && kind == 8) {
            bindsMade++;
        }
        return answer;
    }

    int three(int kind, int k) {
        boolean good = kind == 0 || kind == 1 && k >= 0 && k <= 63 && k / 8 != k % 8;
        if (!good) {
            return TypedTerms.BAD_ARG;
        }
        return termsMade == 40 ? TypedTerms.FULL : push(THREES[kind], k, 3);
    }

    private int push(String word, int k, int parts) {
        if (terms.size() < parts) {
            return TypedTerms.TOO_FEW;
        }
        List<Term> top = terms.subList(terms.size() - parts, terms.size());
        Term made = new Term(word, k, List.copyOf(top));
        top.clear();
        terms.add(made);
        termsMade++;
        return terms.size();
    }

    int drop() {
        if (terms.isEmpty()) {
            return TypedTerms.TOO_FEW;
        }
        terms.remove(terms.size() - 1);
        return terms.size();
    }

    int clear() {
        terms.clear();
        termsMade = 0;
        bindsMade = 0;
        return 0;
    }

    int depth() {
        return terms.size();
    }

    int type(int kind, int k) {
        if (kind < 0 || kind > 5 || kind == 2 && (k < 0 || k > 3)) {
            return TypedTerms.BAD_ARG;
        }
        if (kind <= 2 && types.size() == 8 || typesMade == 40) {
            return TypedTerms.FULL;
        }
        int parts = kind <= 2 ? 0 : kind == 5 ? 1 : 2;
        if (types.size() < parts) {
            return TypedTerms.TOO_FEW;
        }
        List<Type> top = types.subList(types.size() - parts, types.size());
        // The numbers below 0 are the variables of the type stack.
        Type made = new Type(TYPES[kind], kind == 2 ? -1 - k : 0, List.copyOf(top));
        top.clear();
        types.add(made);
        typesMade++;
        return types.size();
    }

    int untype() {
        int held = types.size();
        types.clear();
        typesMade = 0;
        return held;
    }

    // ---- questions about types ----

    private Term top() {
        if (terms.isEmpty()) {
            throw new Ill();
        }
        return terms.get(terms.size() - 1);
    }

    private Type principal(Term term) {
        replaced = new HashMap<>();
        nextVariable = 0;
        work = 0;
        return resolve(infer(term, Map.of()));
    }

    private List<Integer> symbols(Type type) {
        List<Integer> written = new ArrayList<>();
        write(type, written, new ArrayList<>());
        return written;
    }

    private void write(Type type, List<Integer> written, List<Integer> met) {
        spend();
        switch (type.word()) {
            case "int" -> written.add(0);
            case "truth" -> written.add(1);
            case "arrow" -> written.add(2);
            case "pair" -> written.add(3);
            case "list" -> written.add(4);
            default -> {
                if (!met.contains(type.variable())) {
                    met.add(type.variable());
                }
                written.add(10 + met.indexOf(type.variable()));
            }
        }
        for (Type part : type.parts()) {
            write(part, written, met);
        }
    }

    int typeSize() {
        try {
            int size = symbols(principal(top())).size();
            return size > 200 ? TypedTerms.LONG : size;
        } catch (Ill e) {
            return TypedTerms.ILL;
        }
    }

    int symbol(int i) {
        int size = typeSize();
        if (size < 0) {
            return size;
        }
        return i < 0 || i >= size ? TypedTerms.NONE : symbols(principal(top())).get(i);
    }

    int variables() {
        try {
            Set<Integer> met = new HashSet<>();
            addVariables(principal(top()), met);
            return met.size();
        } catch (Ill e) {
            return TypedTerms.ILL;
        }
    }

    int fits() {
        if (types.isEmpty()) {
            return 0;
        }
        try {
            return match(principal(top()), types.get(types.size() - 1), new HashMap<>()) ? 1 : 0;
        } catch (Ill e) {
            return 0;
        }
    }

    private boolean match(Type general, Type type, Map<Integer, Type> chosen) {
        if (general.word().equals("variable")) {
            Type before = chosen.putIfAbsent(general.variable(), type);
            return before == null || before.equals(type);
        }
        if (!general.word().equals(type.word())) {
            return false;
        }
        for (int i = 0; i < general.parts().size(); i++) {
            if (!match(general.parts().get(i), type.parts().get(i), chosen)) {
                return false;
            }
        }
        return true;
    }

    int meets() {
        if (types.isEmpty()) {
            return 0;
        }
        try {
            unify(principal(top()), types.get(types.size() - 1));
            return 1;
        } catch (Ill e) {
            return 0;
        }
    }

    int typed() {
        int count = 0;
        for (Term term : terms) {
            try {
                principal(term);
                count++;
            } catch (Ill e) {
                continue;
            }
        }
        return count;
    }

    // ---- the rules ----

    private void spend() {
        work++;
        if (work > MAX_WORK) {
            throw new TooLarge();
        }
    }

    private Type variable() {
        nextVariable++;
        return new Type("variable", nextVariable, List.of());
    }

    private static Type arrow(Type from, Type to) {
        return new Type("arrow", 0, List.of(from, to));
    }

    private static Type pair(Type first, Type second) {
        return new Type("pair", 0, List.of(first, second));
    }

    private static Type list(Type element) {
        return new Type("list", 0, List.of(element));
    }

    private static Map<Integer, Scheme> with(Map<Integer, Scheme> names, int name, Type type) {
        Map<Integer, Scheme> more = new HashMap<>(names);
        more.put(name, new Scheme(type, Set.of()));
        return more;
    }

    private Type infer(Term term, Map<Integer, Scheme> names) {
        List<Term> p = term.parts();
        int k = term.k();
        switch (term.word()) {
            case "number":
                return INT;
            case "truth":
                return TRUTH;
            case "name":
                return instance(names.get(k));
            case "empty":
                return list(variable());
            case "function": {
                Type from = variable();
                return arrow(from, infer(p.get(0), with(names, k, from)));
            }
            case "own": {
                Type from = variable();
                Type to = variable();
                Map<Integer, Scheme> inner = with(with(names, k / 8, arrow(from, to)), k % 8, from);
                unify(to, infer(p.get(0), inner));
                return arrow(from, to);
            }
            case "apply": {
                Type function = infer(p.get(0), names);
                Type argument = infer(p.get(1), names);
                Type result = variable();
                unify(function, arrow(argument, result));
                return result;
            }
            case "bind": {
                Type bound = infer(p.get(0), names);
                Map<Integer, Scheme> inner = new HashMap<>(names);
                inner.put(k, open(bound, p.get(0), names));
                return infer(p.get(1), inner);
            }
            case "choose": {
                unify(infer(p.get(0), names), TRUTH);
                Type then = infer(p.get(1), names);
                unify(then, infer(p.get(2), names));
                return then;
            }
            case "pair":
                return pair(infer(p.get(0), names), infer(p.get(1), names));
            case "first":
            case "second": {
                Type first = variable();
                Type second = variable();
                unify(infer(p.get(0), names), pair(first, second));
                return term.word().equals("first") ? first : second;
            }
            case "cons": {
                Type element = infer(p.get(0), names);
                unify(infer(p.get(1), names), list(element));
                return list(element);
            }
            case "split": {
                Type element = variable();
                unify(infer(p.get(0), names), list(element));
                Type result = infer(p.get(1), names);
                Map<Integer, Scheme> inner = with(with(names, k / 8, element), k % 8, list(element));
                unify(result, infer(p.get(2), inner));
                return result;
            }
            default:
                unify(infer(p.get(0), names), INT);
                unify(infer(p.get(1), names), INT);
                return Set.of("less", "equal").contains(term.word()) ? TRUTH : INT;
        }
    }

    private Type instance(Scheme scheme) {
        if (scheme == null) {
            throw new Ill();
        }
        Map<Integer, Type> fresh = new HashMap<>();
        for (int v : scheme.open()) {
            fresh.put(v, variable());
        }
        return substitute(resolve(scheme.type()), fresh);
    }

    private Type substitute(Type type, Map<Integer, Type> by) {
        spend();
        if (type.word().equals("variable")) {
            return by.getOrDefault(type.variable(), type);
        }
        List<Type> parts = new ArrayList<>();
        for (Type part : type.parts()) {
            parts.add(substitute(part, by));
        }
        return new Type(type.word(), 0, parts);
    }

    /** The scheme of a bound term, by the words of the document. */
    private Scheme open(Type type, Term bound, Map<Integer, Scheme> names) {
        Set<Integer> open = new HashSet<>();
        addVariables(resolve(type), open);
        for (int name : free(bound)) {
            Scheme scheme = names.get(name);
            Set<Integer> held = new HashSet<>();
            addVariables(resolve(scheme.type()), held);
            held.removeAll(scheme.open());
            open.removeAll(held);
        }
        return new Scheme(type, open);
    }

    private static Set<Integer> free(Term term) {
        Set<Integer> found = new HashSet<>();
        if (term.word().equals("name")) {
            found.add(term.k());
        }
        for (int i = 0; i < term.parts().size(); i++) {
            Set<Integer> inPart = free(term.parts().get(i));
            if (i == term.parts().size() - 1) {
                inPart.removeAll(binds(term));
            }
            found.addAll(inPart);
        }
        return found;
    }

    private static Set<Integer> binds(Term term) {
        return switch (term.word()) {
            case "function", "bind" -> Set.of(term.k());
            case "own" -> new HashSet<>(List.of(term.k() / 8, term.k() % 8));
            case "split" -> Set.of(term.k() / 8, term.k() % 8);
            default -> Set.of();
        };
    }

    private void addVariables(Type type, Set<Integer> found) {
        spend();
        if (type.word().equals("variable")) {
            found.add(type.variable());
        }
        for (Type part : type.parts()) {
            addVariables(part, found);
        }
    }

    private Type resolve(Type type) {
        spend();
        if (type.word().equals("variable")) {
            Type by = replaced.get(type.variable());
            return by == null ? type : resolve(by);
        }
        List<Type> parts = new ArrayList<>();
        for (Type part : type.parts()) {
            parts.add(resolve(part));
        }
        return new Type(type.word(), 0, parts);
    }

    private void unify(Type one, Type other) {
        Type a = resolve(one);
        Type b = resolve(other);
        if (a.word().equals("variable")) {
            replace(a, b);
        } else if (b.word().equals("variable")) {
            replace(b, a);
        } else if (!a.word().equals(b.word())) {
            throw new Ill();
        } else {
            for (int i = 0; i < a.parts().size(); i++) {
                unify(a.parts().get(i), b.parts().get(i));
            }
        }
    }

    private void replace(Type variable, Type by) {
        if (by.equals(variable)) {
            return;
        }
        Set<Integer> inside = new HashSet<>();
        addVariables(by, inside);
        if (inside.contains(variable.variable())) {
            throw new Ill();
        }
        replaced.put(variable.variable(), by);
    }

    // ---- values ----

    private List<int[]> written() {
        Term top = top();
        principal(top);
        steps = 0;
        work = 0;
        Object value = value(top, Map.of());
        List<int[]> items = new ArrayList<>();
        writeValue(value, items);
        return items;
    }

    private void writeValue(Object value, List<int[]> items) {
        spend();
        if (value instanceof Integer n) {
            items.add(new int[] {0, n});
        } else if (value instanceof Boolean b) {
            items.add(new int[] {1, b ? 1 : 0});
        } else if (value instanceof Closure) {
            items.add(new int[] {2, 0});
        } else if (value instanceof Two two) {
            items.add(new int[] {3, 0});
            writeValue(two.first(), items);
            writeValue(two.second(), items);
        } else {
            List<?> elements = (List<?>) value;
            items.add(new int[] {4, elements.size()});
            for (Object element : elements) {
                writeValue(element, items);
            }
        }
    }

    private void step() {
        if (steps == 200) {
            throw new Tired();
        }
        steps++;
    }

    private static Map<Integer, Object> meaning(Map<Integer, Object> names, int name, Object value) {
        Map<Integer, Object> more = new HashMap<>(names);
        more.put(name, value);
        return more;
    }

    private Object value(Term term, Map<Integer, Object> names) {
        List<Term> p = term.parts();
        int k = term.k();
        switch (term.word()) {
            case "number":
                return k;
            case "truth":
                return k == 1;
            case "name":
                return names.get(k);
            case "empty":
                return List.of();
            case "function":
            case "own":
                step();
                return new Closure(term, names);
            case "bind":
                return value(p.get(1), meaning(names, k, value(p.get(0), names)));
            case "choose":
                return value((Boolean) value(p.get(0), names) ? p.get(1) : p.get(2), names);
            case "first":
                return ((Two) value(p.get(0), names)).first();
            case "second":
                return ((Two) value(p.get(0), names)).second();
            case "split": {
                List<?> list = (List<?>) value(p.get(0), names);
                if (list.isEmpty()) {
                    return value(p.get(1), names);
                }
                Map<Integer, Object> inner = meaning(names, k / 8, list.get(0));
                return value(p.get(2), meaning(inner, k % 8, list.subList(1, list.size())));
            }
            default:
                Object x = value(p.get(0), names);
                return joined(term, x, value(p.get(1), names));
        }
    }

    private Object joined(Term term, Object x, Object y) {
        switch (term.word()) {
            case "apply": {
                step();
                Closure function = (Closure) x;
                int k = function.term().k();
                Map<Integer, Object> inner = function.names();
                if (function.term().word().equals("own")) {
                    inner = meaning(inner, k / 8, function);
                }
                return value(function.term().parts().get(0), meaning(inner, k % 8, y));
            }
            case "pair":
                step();
                return new Two(x, y);
            case "cons": {
                step();
                List<Object> longer = new ArrayList<>();
                longer.add(x);
                longer.addAll((List<?>) y);
                return longer;
            }
            case "add":
                return (Integer) x + (Integer) y;
            case "sub":
                return (Integer) x - (Integer) y;
            case "mul":
                return (Integer) x * (Integer) y;
            case "less":
                return (Integer) x < (Integer) y;
            default:
                return x.equals(y);
        }
    }

    int items() {
        try {
            int size = written().size();
            return size > 200 ? TypedTerms.LONG : size;
        } catch (Ill e) {
            return TypedTerms.ILL;
        } catch (Tired e) {
            return TypedTerms.TIRED;
        }
    }

    int kind(int i) {
        int size = items();
        if (size < 0) {
            return size;
        }
        return i < 0 || i >= size ? TypedTerms.NONE : written().get(i)[0];
    }

    int number(int i) {
        return i < 0 || i >= items() ? 0 : written().get(i)[1];
    }

    int steps() {
        int size = items();
        return size == TypedTerms.ILL ? size : steps;
    }
}
