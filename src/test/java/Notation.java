import java.util.ArrayDeque;
import java.util.List;

/**
 * Terms and types as text, so that a test shows what it makes.
 *
 * <p>Names are a to h; a term is 12, true, false, nil, a name, or one of (fun a X), (own a b X),
 * (app F X), (let a X Y), (if C X Y), (pair X Y), (fst X), (snd X), (cons X Y), (split a b L X Y),
 * (add X Y), (sub X Y), (mul X Y), (less X Y), (equal X Y). A type is int, truth, v0 to v3, or one
 * of (-> S T), (* S T), (list S).
 */
final class Notation {
    private static final List<String> TWOS =
            List.of("app", "pair", "cons", "add", "sub", "mul", "less", "equal");

    private Notation() {
    }

    static TypedTerms of(String term) {
        TypedTerms x = new TypedTerms();
        term(x, term);
        return x;
    }

    static void term(TypedTerms x, String text) {
        ArrayDeque<String> words = words(text);
        pushTerm(x, words);
        demand(words.isEmpty(), text);
    }

    static void type(TypedTerms x, String text) {
        ArrayDeque<String> words = words(text);
        pushType(x, words);
        demand(words.isEmpty(), text);
    }

    /** The symbols of the principal type of the top, or the code in their place. */
    static String typeOf(TypedTerms x) {
        int size = x.typeSize();
        if (size < 0) {
            return code(size);
        }
        StringBuilder text = new StringBuilder();
        for (int i = 0; i < size; i++) {
            text.append(i == 0 ? "" : " ").append(x.symbol(i));
        }
        return text.toString();
    }

    /** The items of the value of the top as kind:number, or the code in their place. */
    static String valueOf(TypedTerms x) {
        int size = x.items();
        if (size < 0) {
            return code(size);
        }
        StringBuilder text = new StringBuilder();
        for (int i = 0; i < size; i++) {
            text.append(i == 0 ? "" : " ").append(x.kind(i)).append(':').append(x.number(i));
        }
        return text.toString();
    }

    /** A term doubled n times by d; the stack of terms leaves no room for more than six. */
    static String doubled(int n, String inner) {
        String term = inner;
        for (int i = 0; i < n; i++) {
            term = "(app d " + term + ")";
        }
        return term;
    }

    /** A term in which d doubles. */
    static String doubling(String term) {
        return "(let d (fun a (pair a a)) " + term + ")";
    }

    static String doubledTenTimes(String inner) {
        return doubling("(let e (fun b " + doubled(5, "b") + ") (app e (app e " + inner + ")))");
    }

    private static String code(int answer) {
        switch (answer) {
            case TypedTerms.ILL:
                return "ILL";
            case TypedTerms.LONG:
                return "LONG";
            case TypedTerms.TIRED:
                return "TIRED";
            default:
                return "code " + answer;
        }
    }

    private static ArrayDeque<String> words(String text) {
        String spaced = text.replace("(", " ( ").replace(")", " ) ").trim();
        return new ArrayDeque<>(List.of(spaced.split("\\s+")));
    }

    private static void demand(boolean holds, String text) {
        if (!holds) {
            throw new IllegalStateException("the test can't make " + text);
        }
    }

    private static int name(ArrayDeque<String> words) {
        return words.pop().charAt(0) - 'a';
    }

    private static void pushTerm(TypedTerms x, ArrayDeque<String> words) {
        String word = words.pop();
        if (!word.equals("(")) {
            pushLeaf(x, word);
            return;
        }
        String head = words.pop();
        int answer;
        switch (head) {
            case "fun": {
                int k = name(words);
                pushTerm(x, words);
                answer = x.one(0, k);
                break;
            }
            case "own": {
                int f = name(words);
                int k = name(words);
                pushTerm(x, words);
                answer = x.one(1, 8 * f + k);
                break;
            }
            case "fst":
            case "snd":
                pushTerm(x, words);
                answer = x.one(head.equals("fst") ? 2 : 3, 0);
                break;
            case "let": {
                int k = name(words);
                pushTerm(x, words);
                pushTerm(x, words);
                answer = x.two(8, k);
                break;
            }
            case "if":
                pushTerm(x, words);
                pushTerm(x, words);
                pushTerm(x, words);
                answer = x.three(0, 0);
                break;
            case "split": {
                int h = name(words);
                int t = name(words);
                pushTerm(x, words);
                pushTerm(x, words);
                pushTerm(x, words);
                answer = x.three(1, 8 * h + t);
                break;
            }
            default:
                pushTerm(x, words);
                pushTerm(x, words);
                answer = x.two(TWOS.indexOf(head), 0);
        }
        demand(answer > 0, head);
        demand(words.pop().equals(")"), head);
    }

    private static void pushLeaf(TypedTerms x, String word) {
        int answer;
        if (word.equals("true") || word.equals("false")) {
            answer = x.leaf(1, word.equals("true") ? 1 : 0);
        } else if (word.equals("nil")) {
            answer = x.leaf(3, 0);
        } else if (Character.isLetter(word.charAt(0))) {
            demand(word.length() == 1, word);
            answer = x.leaf(2, word.charAt(0) - 'a');
        } else {
            answer = x.leaf(0, Integer.parseInt(word));
        }
        demand(answer > 0, word);
    }

    private static void pushType(TypedTerms x, ArrayDeque<String> words) {
        String word = words.pop();
        int answer;
        if (word.equals("int")) {
            answer = x.type(0, 0);
        } else if (word.equals("truth")) {
            answer = x.type(1, 0);
        } else if (word.startsWith("v")) {
            answer = x.type(2, word.charAt(1) - '0');
        } else {
            String head = words.pop();
            pushType(x, words);
            if (!head.equals("list")) {
                pushType(x, words);
            }
            answer = x.type(head.equals("->") ? 3 : head.equals("*") ? 4 : 5, 0);
            demand(words.pop().equals(")"), head);
        }
        demand(answer > 0, word);
    }
}
