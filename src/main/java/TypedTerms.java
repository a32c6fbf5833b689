/**
 * Terms of a small functional language: their most general types, whether other types fit them,
 * and their values.
 *
 * <p>Nothing but the two stacks outlives a call: types and values are worked out anew whenever a
 * call asks for them, so that no answer can be out of date.
 */
public final class TypedTerms {
    public static final int BAD_ARG = -1;
    public static final int FULL = -2;
    public static final int TOO_FEW = -3;
    public static final int NONE = -4;
    public static final int ILL = -5;
    public static final int LONG = -6;
    public static final int TIRED = -7;

    private static final int NAMES = 8;
    private static final int MAX_NUMBER = 99;
    private static final int MAX_DEPTH = 8;
    private static final int MAX_TERMS = 40;
    private static final int MAX_BINDS = 3;
    private static final int MAX_TYPES = 40;
    private static final int TYPE_VARIABLES = 4;
    private static final int MAX_STEPS = 200;
    private static final int MAX_WRITTEN = 200;

    // The kinds of leaf, one, two and three follow each other, so a kind tells the number of parts.
    private static final int NUMBER = 0;
    private static final int TRUTH = 1;
    private static final int NAME = 2;
    private static final int EMPTY = 3;
    private static final int FUNCTION = 4;
    private static final int OWN = 5;
    private static final int FIRST = 6;
    private static final int SECOND = 7;
    private static final int APPLY = 8;
    private static final int PAIR = 9;
    private static final int CONS = 10;
    private static final int ADD = 11;
    private static final int SUB = 12;
    private static final int MUL = 13;
    private static final int LESS = 14;
    private static final int EQUAL = 15;
    private static final int BIND = 16;
    private static final int CHOOSE = 17;
    private static final int SPLIT = 18;
    private static final int ONE_KINDS = 4;
    private static final int TWO_KINDS = 9;
    private static final int THREE_KINDS = 2;
    private static final int PARTS = 3;
    private static final int MAX_PARTS = 120;

    // The shapes of types; those below VARIABLE are also the symbols by which they are written.
    private static final int INT_SHAPE = 0;
    private static final int TRUTH_SHAPE = 1;
    private static final int ARROW_SHAPE = 2;
    private static final int PAIR_SHAPE = 3;
    private static final int LIST_SHAPE = 4;
    private static final int VARIABLE = 5;
    private static final int RIGID = 6;
    private static final int FIRST_VARIABLE_SYMBOL = 10;

    // The first nodes keep the types of the type stack, the others one principal type at a time.
    private static final int INT_NODE = 0;
    private static final int TRUTH_NODE = 1;
    private static final int VARIABLE_NODE = 2;
    private static final int GIVEN_NODE = 6;
    private static final int INFERRED_NODE = 46;

    // A term makes 3 nodes at most, and a name copies no more than what was made for the term bound
    // to it; with 40 terms and 3 binds that is below 12100 nodes in all.
    private static final int MAX_NODES = 16384;

    // The kinds of values; those below NO_ELEMENTS are also the kinds by which they are written.
    private static final int INT_VALUE = 0;
    private static final int TRUTH_VALUE = 1;
    private static final int FUNCTION_VALUE = 2;
    private static final int PAIR_VALUE = 3;
    private static final int LIST_VALUE = 4;
    private static final int NO_ELEMENTS = 5;

    // 200 steps enter at most 200 functions after the top term, each with at most 40 terms to work
    // out: 8040 terms, each of which makes one value and gives meanings to two names at most.
    private static final int MAX_CELLS = 8192;
    private static final int MAX_ENTRIES = 16384;

    // Unifying holds two numbers for each node at most, working out two for each of 8040 terms.
    private static final int MAX_WORK = 32768;
    private static final int LOOP_BOUND = 1000000;

    private static final int NO_ENTRY = 0;
    private static final int OUTSIDE = -1;
    private static final int FINISH = 64;

    private final int[] termKind = new int[MAX_TERMS];
    private final int[] termArgument = new int[MAX_TERMS];
    private final int[] termPart = new int[MAX_PARTS];
    private final int[] termStack = new int[MAX_DEPTH];
    private int termDepth = 0;
    private int termsMade = 0;

    private final int[] givenStack = new int[MAX_DEPTH];
    private int givenDepth = 0;
    private int givenMade = 0;

    // What names mean is a chain of entries, the innermost first: types in the one use, values in
    // the other, since the two are never needed at once.
    private final int[] entryName = new int[MAX_ENTRIES];
    private final int[] entryMeaning = new int[MAX_ENTRIES];
    private final int[] entryNext = new int[MAX_ENTRIES];
    private int entryCount = 1;

    private final int[] scopeOf = new int[MAX_TERMS];
    private final int[] typeOf = new int[MAX_TERMS];
    private final int[] boundTo = new int[MAX_TERMS];

    private final int[] shape = new int[MAX_NODES];
    private final int[] left = new int[MAX_NODES];
    private final int[] right = new int[MAX_NODES];
    private final int[] same = new int[MAX_NODES];
    private final boolean[] open = new boolean[MAX_NODES];
    private int nodeCount = INFERRED_NODE;

    private final boolean[] seen = new boolean[MAX_NODES];
    private final int[] walk = new int[MAX_NODES];
    private int walkLength = 0;
    private final int[] note = new int[MAX_NODES];

    private final int[] work = new int[MAX_WORK];
    private int workCount = 0;

    private final int[] cellKind = new int[MAX_CELLS];
    private final int[] cellLeft = new int[MAX_CELLS];
    private final int[] cellRight = new int[MAX_CELLS];
    private int cellCount = 0;
    private final int[] results = new int[MAX_CELLS];
    private int resultCount = 0;
    private int stepsTaken = 0;

    private final int[] writtenKind = new int[MAX_WRITTEN];
    private final int[] writtenNumber = new int[MAX_WRITTEN];

    public TypedTerms() {
        shape[INT_NODE] = INT_SHAPE;
        shape[TRUTH_NODE] = TRUTH_SHAPE;
    }

    // ---- the stack of terms ----

    public int leaf(int kind, int k) {
        if (!isLeaf(kind, k)) {
            return BAD_ARG;
        }
        return makeTerm(kind, k, 0);
    }

    public int one(int kind, int k) {
        if (!isOne(kind, k)) {
            return BAD_ARG;
        }
        return makeTerm(FUNCTION + kind, k, 1);
    }

    public int two(int kind, int k) {
        int termsKind = APPLY + kind;
        if (kind < 0 || kind >= TWO_KINDS || (termsKind == BIND && !isName(k))) {
            return BAD_ARG;
        }
        if (termsKind == BIND && countBinds() >= MAX_BINDS) {
            return FULL;
        }
        return makeTerm(termsKind, k, 2);
    }

    public int three(int kind, int k) {
        if (kind < 0 || kind >= THREE_KINDS) {
            return BAD_ARG;
        }
        if (CHOOSE + kind == SPLIT && (!isTwoNames(k) || k / NAMES == k % NAMES)) {
            return BAD_ARG;
        }
        return makeTerm(CHOOSE + kind, k, 3);
    }

    public int drop() {
        if (termDepth == 0) {
            return TOO_FEW;
        }
        termDepth--;
        return termDepth;
    }

    public void clear() {
        termDepth = 0;
        termsMade = 0;
    }

    public int depth() {
        return termDepth;
    }

    private boolean isName(int k) {
        return k >= 0 && k < NAMES;
    }

    private boolean isTwoNames(int k) {
        return k >= 0 && k < NAMES * NAMES;
    }

    private boolean isLeaf(int kind, int k) {
        switch (kind) {
            case NUMBER:
                return k >= -MAX_NUMBER && k <= MAX_NUMBER;
            case TRUTH:
                return k == 0 || k == 1;
            case NAME:
                return isName(k);
            default:
                return kind == EMPTY;
        }
    }

    private boolean isOne(int kind, int k) {
        switch (FUNCTION + kind) {
            case FUNCTION:
                return isName(k);
            case OWN:
                return isTwoNames(k);
            default:
                return kind >= 0 && kind < ONE_KINDS;
        }
    }

    private int countBinds() {
        int binds = 0;
        for (int t = 0; t < termsMade; t++) {
            if (termKind[t] == BIND) {
                binds++;
            }
        }
        return binds;
    }

    private int makeTerm(int kind, int k, int parts) {
        int bottom = termDepth - parts;
        // Only a leaf makes the stack longer, so only a leaf finds its place taken.
        if (termsMade >= MAX_TERMS || bottom >= MAX_DEPTH) {
            return FULL;
        }
        if (bottom < 0) {
            return TOO_FEW;
        }
        int made = termsMade;
        for (int p = 0; p < parts; p++) {
            termPart[PARTS * made + p] = termStack[bottom + p];
        }
        termKind[made] = kind;
        termArgument[made] = k;
        termStack[bottom] = made;
        termDepth = bottom + 1;
        termsMade++;
        return termDepth;
    }

    private int topTerm() {
        return termDepth == 0 ? OUTSIDE : termStack[termDepth - 1];
    }

    private int countParts(int t) {
        int termsKind = termKind[t];
        if (termsKind < FUNCTION) {
            return 0;
        }
        if (termsKind < APPLY) {
            return 1;
        }
        return termsKind < CHOOSE ? 2 : PARTS;
    }

    // ---- the stack of types ----

    public int type(int kind, int k) {
        if (kind < 0 || kind > 5 || (kind == 2 && (k < 0 || k >= TYPE_VARIABLES))) {
            return BAD_ARG;
        }
        if (givenMade >= MAX_TYPES || (kind <= 2 && givenDepth >= MAX_DEPTH)) {
            return FULL;
        }
        if (kind <= 2) {
            givenStack[givenDepth] = kind == 2 ? VARIABLE_NODE + k : kind;
            givenDepth++;
            givenMade++;
            return givenDepth;
        }
        int bottom = kind == 5 ? givenDepth - 1 : givenDepth - 2;
        if (bottom < 0) {
            return TOO_FEW;
        }
        keepGiven(kind - 1, bottom);
        return givenDepth;
    }

    public int untype() {
        int held = givenDepth;
        givenDepth = 0;
        givenMade = 0;
        return held;
    }

    private void keepGiven(int shapeMade, int bottom) {
        int made = GIVEN_NODE + givenMade;
        shape[made] = shapeMade;
        left[made] = givenStack[bottom];
        right[made] = givenStack[givenDepth - 1];
        givenStack[bottom] = made;
        givenDepth = bottom + 1;
        givenMade++;
    }

    // ---- what is asked of types ----

    public int typeSize() {
        return countSymbols();
    }

    public int symbol(int i) {
        int count = countSymbols();
        if (count < 0) {
            return count;
        }
        return i >= 0 && i < count ? writtenKind[i] : NONE;
    }

    public int variables() {
        int top = topTerm();
        if (!infer(top)) {
            return ILL;
        }
        startWalk();
        walkFrom(typeOf[top]);
        int count = 0;
        for (int i = 0; i < walkLength; i++) {
            if (shape[walk[i]] == VARIABLE) {
                count++;
            }
        }
        return count;
    }

    public boolean fits() {
        // An instance must leave the given type as it is, so there no variable may be replaced.
        return agrees(true);
    }

    public boolean meets() {
        return agrees(false);
    }

    public int typed() {
        int count = 0;
        for (int i = 0; i < termDepth; i++) {
            if (infer(termStack[i])) {
                count++;
            }
        }
        return count;
    }

    private boolean agrees(boolean givenVariablesAreHeld) {
        int top = topTerm();
        if (givenDepth == 0 || !infer(top)) {
            return false;
        }
        for (int k = 0; k < TYPE_VARIABLES; k++) {
            shape[VARIABLE_NODE + k] = givenVariablesAreHeld ? RIGID + k : VARIABLE;
        }
        return unify(typeOf[top], givenStack[givenDepth - 1]) && hasNoCycle();
    }

    private int countSymbols() {
        int top = topTerm();
        if (!infer(top)) {
            return ILL;
        }
        return writeType(typeOf[top]);
    }

    private int writeType(int written) {
        for (int i = 0; i < nodeCount; i++) {
            note[i] = 0;
        }
        int numbered = 0;
        int count = 0;
        workCount = 0;
        push(written);
        for (; count < MAX_WRITTEN && workCount > 0; count++) {
            int part = pop();
            int node = find(part);
            if (isCompound(node)) {
                writtenKind[count] = shape[node];
                pushParts(node);
            } else if (shape[node] == VARIABLE) {
                if (note[node] == 0) {
                    note[node] = FIRST_VARIABLE_SYMBOL + numbered;
                    numbered++;
                }
                writtenKind[count] = note[node];
            } else {
                writtenKind[count] = shape[node];
            }
        }
        return workCount > 0 ? LONG : count;
    }

    private void pushParts(int node) {
        if (shape[node] != LIST_SHAPE) {
            push(right[node]);
        }
        push(left[node]);
    }

    // ---- the principal type ----

    /** Whether the term is typed; if so, typeOf has its principal type. */
    private boolean infer(int root) {
        if (root < 0) {
            return false;
        }
        startTypes(root);
        for (int t = root; t >= 0; t--) {
            if (scopeOf[t] != OUTSIDE) {
                int inner = openScope(t);
                placeParts(t, inner);
            }
        }
        boolean sound = true;
        // Terms are made after their parts and from left to right, so their numbers give the order
        // in which a bound term comes before what it is bound in.
        for (int t = 0; t <= root && sound; t++) {
            if (scopeOf[t] == OUTSIDE) {
                continue;
            }
            switch (countParts(t)) {
                case 0:
                    sound = termKind[t] == NAME ? typeName(t) : typeLeaf(t);
                    break;
                case 1:
                    sound = typeOne(t);
                    break;
                case 2:
                    sound = typeTwo(t);
                    break;
                default:
                    sound = typeThree(t);
            }
            if (boundTo[t] != NO_ENTRY) {
                makeScheme(t);
            }
        }
        return sound && hasNoCycle();
    }

    private void startTypes(int root) {
        nodeCount = INFERRED_NODE;
        entryCount = 1;
        for (int i = 0; i < INFERRED_NODE; i++) {
            same[i] = i;
        }
        for (int t = 0; t <= root; t++) {
            scopeOf[t] = OUTSIDE;
            boundTo[t] = NO_ENTRY;
        }
        scopeOf[root] = NO_ENTRY;
    }

    /** In every term that binds names it is the last part that they are bound in. */
    private void placeParts(int t, int inner) {
        int parts = countParts(t);
        for (int p = 0; p < parts; p++) {
            scopeOf[termPart[PARTS * t + p]] = p == parts - 1 ? inner : scopeOf[t];
        }
    }

    /** The scope of the last part. What is known of the type is kept in typeOf until its turn. */
    private int openScope(int t) {
        int k = termArgument[t];
        int scope = scopeOf[t];
        switch (termKind[t]) {
            case FUNCTION:
                typeOf[t] = newOfVariables(ARROW_SHAPE);
                return addEntry(k, left[typeOf[t]], scope);
            case OWN:
                typeOf[t] = newOfVariables(ARROW_SHAPE);
                scope = addEntry(k / NAMES, typeOf[t], scope);
                return addEntry(k % NAMES, left[typeOf[t]], scope);
            case BIND:
                scope = addEntry(k, INT_NODE, scope);
                boundTo[termPart[PARTS * t]] = scope;
                return scope;
            case SPLIT:
                typeOf[t] = newOfVariables(LIST_SHAPE);
                scope = addEntry(k / NAMES, left[typeOf[t]], scope);
                return addEntry(k % NAMES, typeOf[t], scope);
            default:
                return scope;
        }
    }

    // typeLeaf to typeThree take a term whose parts have their types, and answer whether the rules
    // allow it.

    private boolean typeLeaf(int t) {
        if (termKind[t] == EMPTY) {
            typeOf[t] = newOfVariables(LIST_SHAPE);
        } else {
            typeOf[t] = termKind[t] == TRUTH ? TRUTH_NODE : INT_NODE;
        }
        return true;
    }

    private boolean typeOne(int t) {
        int x = typeOf[termPart[PARTS * t]];
        if (termKind[t] == FUNCTION || termKind[t] == OWN) {
            return unify(right[typeOf[t]], x);
        }
        int both = newOfVariables(PAIR_SHAPE);
        typeOf[t] = termKind[t] == FIRST ? left[both] : right[both];
        return unify(x, both);
    }

    private boolean typeTwo(int t) {
        int x = typeOf[termPart[PARTS * t]];
        int y = typeOf[termPart[PARTS * t + 1]];
        switch (termKind[t]) {
            case APPLY:
                int arrow = newOfVariables(ARROW_SHAPE);
                typeOf[t] = right[arrow];
                return unify(x, arrow) && unify(y, left[arrow]);
            case PAIR:
                typeOf[t] = newNode(PAIR_SHAPE, x, y);
                return true;
            case CONS:
                typeOf[t] = newNode(LIST_SHAPE, x, x);
                return unify(y, typeOf[t]);
            case BIND:
                typeOf[t] = y;
                return true;
            default:
                typeOf[t] = termKind[t] == LESS || termKind[t] == EQUAL ? TRUTH_NODE : INT_NODE;
                return unify(x, INT_NODE) && unify(y, INT_NODE);
        }
    }

    private boolean typeThree(int t) {
        int x = typeOf[termPart[PARTS * t]];
        int y = typeOf[termPart[PARTS * t + 1]];
        int z = typeOf[termPart[PARTS * t + 2]];
        int wanted = termKind[t] == CHOOSE ? TRUTH_NODE : typeOf[t];
        typeOf[t] = y;
        return unify(x, wanted) && unify(y, z);
    }

    /** Gives a name its scheme's type, with new variables for the open ones. */
    private boolean typeName(int t) {
        int entry = findEntry(termArgument[t], scopeOf[t]);
        if (entry == NO_ENTRY) {
            return false;
        }
        startWalk();
        walkFrom(entryMeaning[entry]);
        for (int i = 0; i < walkLength; i++) {
            int node = walk[i];
            note[node] = open[node] ? newNode(shape[node], INT_NODE, INT_NODE) : node;
        }
        for (int i = 0; i < walkLength; i++) {
            int node = walk[i];
            if (open[node] && isCompound(node)) {
                int l = find(left[node]);
                int r = find(right[node]);
                left[note[node]] = note[l];
                right[note[node]] = note[r];
            }
        }
        typeOf[t] = note[walk[0]];
        return true;
    }

    /**
     * Opens what the type of a bound term has for itself. The names around it that do not stand in
     * it are looked at too: they share no variable with it that those which do stand in it lack.
     */
    private void makeScheme(int bound) {
        startWalk();
        int entry = scopeOf[bound];
        for (int n = 0; n < MAX_ENTRIES && entry != NO_ENTRY; n++) {
            walkFrom(entryMeaning[entry]);
            entry = entryNext[entry];
        }
        int around = walkLength;
        walkFrom(typeOf[bound]);
        // Compounds are marked as well, so that a copy leaves out what was made around the term.
        for (int i = around; i < walkLength; i++) {
            int node = walk[i];
            open[node] = shape[node] == VARIABLE || isCompound(node);
        }
        entryMeaning[boundTo[bound]] = typeOf[bound];
    }

    // ---- nodes of types ----

    private int newNode(int shapeMade, int l, int r) {
        if (nodeCount >= MAX_NODES) {
            return INT_NODE;
        }
        int made = nodeCount;
        shape[made] = shapeMade;
        left[made] = l;
        right[made] = r;
        same[made] = made;
        open[made] = false;
        nodeCount++;
        return made;
    }

    private int newOfVariables(int shapeMade) {
        int l = newNode(VARIABLE, INT_NODE, INT_NODE);
        int r = l;
        // A list has its part on both sides, so that only writing has to tell it from a pair.
        if (shapeMade != LIST_SHAPE) {
            r = newNode(VARIABLE, INT_NODE, INT_NODE);
        }
        return newNode(shapeMade, l, r);
    }

    private boolean isCompound(int node) {
        return shape[node] >= ARROW_SHAPE && shape[node] <= LIST_SHAPE;
    }

    /** The node that stands for all those that were made the same as this one. */
    private int find(int node) {
        int found = node;
        for (int n = 0; n < MAX_NODES && same[found] != found; n++) {
            same[found] = same[same[found]];
            found = same[found];
        }
        return found;
    }

    /**
     * Makes two types the same; false if they can't be. Types that would have to be parts of
     * themselves are left to hasNoCycle.
     */
    private boolean unify(int wanted, int found) {
        workCount = 0;
        push(wanted);
        push(found);
        for (int n = 0; n < LOOP_BOUND && workCount > 0; n++) {
            int s = pop();
            int t = pop();
            s = find(s);
            t = find(t);
            if (s == t) {
                continue;
            }
            if (shape[s] == VARIABLE) {
                same[s] = t;
            } else if (shape[t] == VARIABLE) {
                same[t] = s;
            } else if (shape[s] != shape[t]) {
                return false;
            } else {
                // Joined before their parts are, so that no two nodes are compared twice.
                same[s] = t;
                push(right[s]);
                push(right[t]);
                push(left[s]);
                push(left[t]);
            }
        }
        return true;
    }

    /** Takes away what is part of nothing until nothing is left, or only what is part of itself. */
    private boolean hasNoCycle() {
        countUses();
        walkLength = 0;
        int kept = 0;
        for (int i = 0; i < nodeCount; i++) {
            if (same[i] == i) {
                kept++;
                if (note[i] == 0) {
                    walk[walkLength] = i;
                    walkLength++;
                }
            }
        }
        for (int i = 0; i < MAX_NODES && i < walkLength; i++) {
            int node = walk[i];
            if (isCompound(node)) {
                takeUse(left[node]);
                takeUse(right[node]);
            }
        }
        return walkLength == kept;
    }

    private void countUses() {
        for (int i = 0; i < nodeCount; i++) {
            note[i] = 0;
        }
        for (int i = 0; i < nodeCount; i++) {
            if (same[i] == i && isCompound(i)) {
                int l = find(left[i]);
                int r = find(right[i]);
                note[l]++;
                note[r]++;
            }
        }
    }

    private void takeUse(int part) {
        int node = find(part);
        note[node]--;
        if (note[node] == 0 && walkLength < MAX_NODES) {
            walk[walkLength] = node;
            walkLength++;
        }
    }

    private void startWalk() {
        for (int i = 0; i < nodeCount; i++) {
            seen[i] = false;
        }
        walkLength = 0;
    }

    /** Adds to the walk, each once, the nodes of a type that are not in it yet. */
    private void walkFrom(int start) {
        int next = walkLength;
        int first = find(start);
        see(first);
        for (; next < MAX_NODES && next < walkLength; next++) {
            int node = walk[next];
            if (isCompound(node)) {
                int l = find(left[node]);
                int r = find(right[node]);
                see(l);
                see(r);
            }
        }
    }

    private void see(int node) {
        if (!seen[node] && walkLength < MAX_NODES) {
            seen[node] = true;
            walk[walkLength] = node;
            walkLength++;
        }
    }

    // ---- what names mean ----

    private int addEntry(int name, int meaning, int scope) {
        if (entryCount >= MAX_ENTRIES) {
            return scope;
        }
        int made = entryCount;
        entryName[made] = name;
        entryMeaning[made] = meaning;
        entryNext[made] = scope;
        entryCount++;
        return made;
    }

    private int findEntry(int name, int scope) {
        int entry = scope;
        for (int n = 0; n < MAX_ENTRIES && entry != NO_ENTRY && entryName[entry] != name; n++) {
            entry = entryNext[entry];
        }
        return entry;
    }

    // ---- the stack of what is still to be done ----

    private void push(int value) {
        if (workCount < MAX_WORK) {
            work[workCount] = value;
            workCount++;
        }
    }

    private int pop() {
        if (workCount == 0) {
            return 0;
        }
        workCount--;
        return work[workCount];
    }

    // ---- what is asked of values ----

    public int items() {
        return countItems();
    }

    public int kind(int i) {
        int count = countItems();
        if (count < 0) {
            return count;
        }
        return i >= 0 && i < count ? writtenKind[i] : NONE;
    }

    public int number(int i) {
        int count = countItems();
        return i >= 0 && i < count ? writtenNumber[i] : 0;
    }

    public int steps() {
        int top = topTerm();
        if (!infer(top)) {
            return ILL;
        }
        workOut(top);
        return stepsTaken;
    }

    private int countItems() {
        int top = topTerm();
        if (!infer(top)) {
            return ILL;
        }
        if (!workOut(top)) {
            return TIRED;
        }
        int result = popResult();
        return writeValue(result);
    }

    private int writeValue(int written) {
        int count = 0;
        workCount = 0;
        push(written);
        for (; count < MAX_WRITTEN && workCount > 0; count++) {
            // What waits has an item each at least; to hold more of it would be of no use.
            if (count + workCount > MAX_WRITTEN) {
                return LONG;
            }
            int cell = pop();
            int cellsKind = cellKind[cell];
            writtenKind[count] = cellsKind == NO_ELEMENTS ? LIST_VALUE : cellsKind;
            writtenNumber[count] = 0;
            if (cellsKind == INT_VALUE || cellsKind == TRUTH_VALUE) {
                writtenNumber[count] = cellLeft[cell];
            } else if (cellsKind == PAIR_VALUE) {
                push(cellRight[cell]);
                push(cellLeft[cell]);
            } else if (cellsKind == LIST_VALUE) {
                writtenNumber[count] = pushElements(cell);
            }
        }
        return workCount > 0 ? LONG : count;
    }

    /** Pushes the elements of a list, the first on top; answers how many there are. */
    private int pushElements(int list) {
        int length = 0;
        int cell = list;
        for (int n = 0; n < MAX_STEPS && cellKind[cell] == LIST_VALUE; n++) {
            length++;
            push(cellLeft[cell]);
            cell = cellRight[cell];
        }
        for (int i = 0; i < length / 2; i++) {
            int low = workCount - length + i;
            int high = workCount - 1 - i;
            int swapped = work[low];
            work[low] = work[high];
            work[high] = swapped;
        }
        return length;
    }

    // ---- working out ----

    /** Leaves the value of a typed term as the one result; false if the run is tired. */
    private boolean workOut(int root) {
        entryCount = 1;
        cellCount = 0;
        resultCount = 0;
        stepsTaken = 0;
        workCount = 0;
        pushTask(root, NO_ENTRY);
        boolean awake = true;
        for (int n = 0; n < LOOP_BOUND && awake && workCount > 0; n++) {
            int scope = pop();
            int task = pop();
            awake = task < FINISH ? begin(task, scope) : finish(task - FINISH, scope);
        }
        return awake;
    }

    private void pushTask(int task, int scope) {
        if (workCount + 1 < MAX_WORK) {
            work[workCount] = task;
            work[workCount + 1] = scope;
            workCount += 2;
        }
    }

    private boolean takeStep() {
        if (stepsTaken >= MAX_STEPS) {
            return false;
        }
        stepsTaken++;
        return true;
    }

    private boolean needsTwo(int t) {
        return termKind[t] >= APPLY && termKind[t] <= EQUAL;
    }

    /** Works a term without parts out, or sets what must be worked out before it as tasks. */
    private boolean begin(int t, int scope) {
        int k = termArgument[t];
        switch (termKind[t]) {
            case NUMBER:
                return give(INT_VALUE, k, 0);
            case TRUTH:
                return give(TRUTH_VALUE, k, 0);
            case NAME:
                int entry = findEntry(k, scope);
                pushResult(entryMeaning[entry]);
                return true;
            case EMPTY:
                return give(NO_ELEMENTS, 0, 0);
            case FUNCTION:
            case OWN:
                return giveAfterStep(FUNCTION_VALUE, t, scope);
            default:
                pushTask(FINISH + t, scope);
                if (needsTwo(t)) {
                    pushTask(termPart[PARTS * t + 1], scope);
                }
                pushTask(termPart[PARTS * t], scope);
                return true;
        }
    }

    private boolean finish(int t, int scope) {
        int y = 0;
        if (needsTwo(t)) {
            y = popResult();
        }
        int x = popResult();
        switch (termKind[t]) {
            case FIRST:
                pushResult(cellLeft[x]);
                return true;
            case SECOND:
                pushResult(cellRight[x]);
                return true;
            case APPLY:
                return enter(x, y);
            case PAIR:
                return giveAfterStep(PAIR_VALUE, x, y);
            case CONS:
                return giveAfterStep(LIST_VALUE, x, y);
            case BIND:
                int inner = addEntry(termArgument[t], x, scope);
                pushTask(termPart[PARTS * t + 1], inner);
                return true;
            case CHOOSE:
                pushTask(termPart[PARTS * t + (cellLeft[x] == 1 ? 1 : 2)], scope);
                return true;
            case SPLIT:
                splitList(t, x, scope);
                return true;
            default:
                return calculate(termKind[t], cellLeft[x], cellLeft[y]);
        }
    }

    private boolean enter(int function, int argument) {
        if (!takeStep()) {
            return false;
        }
        int t = cellLeft[function];
        int k = termArgument[t];
        int scope = cellRight[function];
        if (termKind[t] == OWN) {
            scope = addEntry(k / NAMES, function, scope);
        }
        scope = addEntry(k % NAMES, argument, scope);
        pushTask(termPart[PARTS * t], scope);
        return true;
    }

    private void splitList(int t, int list, int scope) {
        if (cellKind[list] == NO_ELEMENTS) {
            pushTask(termPart[PARTS * t + 1], scope);
            return;
        }
        int k = termArgument[t];
        int inner = addEntry(k / NAMES, cellLeft[list], scope);
        inner = addEntry(k % NAMES, cellRight[list], inner);
        pushTask(termPart[PARTS * t + 2], inner);
    }

    private boolean calculate(int termsKind, int x, int y) {
        switch (termsKind) {
            case ADD:
                return give(INT_VALUE, x + y, 0);
            case SUB:
                return give(INT_VALUE, x - y, 0);
            case MUL:
                return give(INT_VALUE, x * y, 0);
            case LESS:
                return give(TRUTH_VALUE, x < y ? 1 : 0, 0);
            default:
                return give(TRUTH_VALUE, x == y ? 1 : 0, 0);
        }
    }

    private boolean giveAfterStep(int valueKind, int l, int r) {
        return takeStep() && give(valueKind, l, r);
    }

    /** Always true, so that what gives a value can tell in one word that the run goes on. */
    private boolean give(int valueKind, int l, int r) {
        if (cellCount < MAX_CELLS && resultCount < MAX_CELLS) {
            cellKind[cellCount] = valueKind;
            cellLeft[cellCount] = l;
            cellRight[cellCount] = r;
            results[resultCount] = cellCount;
            cellCount++;
            resultCount++;
        }
        return true;
    }

    private void pushResult(int cell) {
        if (resultCount < MAX_CELLS) {
            results[resultCount] = cell;
            resultCount++;
        }
    }

    private int popResult() {
        if (resultCount == 0) {
            return 0;
        }
        resultCount--;
        return results[resultCount];
    }
}
