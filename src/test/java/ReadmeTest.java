import java.io.File;
import java.io.IOException;
import java.lang.reflect.Field;
import java.lang.reflect.Method;
import java.lang.reflect.Modifier;
import java.nio.file.Files;
import java.nio.file.Path;
import java.util.HashMap;
import java.util.List;
import java.util.Map;
import java.util.Set;
import java.util.TreeSet;
import java.util.regex.Matcher;
import java.util.regex.Pattern;

/** What README.md shows: each call in its Java parts answers with the word after the slashes. */
public final class ReadmeTest {
    private static final Path README = Path.of("README.md");
    private static final Pattern NEW =
            Pattern.compile("TypedTerms (\\w+) = new TypedTerms\\(\\);");
    private static final Pattern CALL =
            Pattern.compile("(\\w+)\\.(\\w+)\\(([^)]*)\\); +// (-?\\w+)(: .*)?");
    private static final Pattern TEST = Pattern.compile("`(\\w+Test)`");
    private static final Pattern CODE = Pattern.compile("\\| `([A-Z_]+)` \\| (-\\d+) \\|.*");

    private static final Map<String, TypedTerms> OBJECTS = new HashMap<>();
    private static final Set<String> CALLED = new TreeSet<>();

    private ReadmeTest() {
    }

    public static void main(String[] args) throws IOException, ReflectiveOperationException {
        List<String> lines = Files.readAllLines(README);
        boolean java = false;
        for (String line : lines) {
            if (line.startsWith("```")) {
                java = line.equals("```java");
            } else if (java) {
                run(line);
            }
        }
        everyMethodIsShown();
        everyCodeIsShown(lines);
        everyTestIsNamed(lines);
        Check.end();
    }

    private static void run(String line) throws ReflectiveOperationException {
        Matcher made = NEW.matcher(line);
        if (made.matches()) {
            OBJECTS.put(made.group(1), new TypedTerms());
            return;
        }
        Matcher call = CALL.matcher(line);
        boolean understood = call.matches() && OBJECTS.containsKey(call.group(1));
        Check.due("'" + line + "' is a call with its answer", understood, true);
        if (understood) {
            CALLED.add(call.group(2));
            String answer = answer(OBJECTS.get(call.group(1)), call.group(2), call.group(3));
            Check.due(line, answer, due(call.group(4)));
        }
    }

    private static String answer(TypedTerms x, String name, String arguments)
            throws ReflectiveOperationException {
        String[] words = arguments.isEmpty() ? new String[0] : arguments.split(", ");
        Class<?>[] types = new Class<?>[words.length];
        Object[] values = new Object[words.length];
        for (int i = 0; i < words.length; i++) {
            types[i] = int.class;
            values[i] = Integer.valueOf(words[i]);
        }
        Object answer = TypedTerms.class.getMethod(name, types).invoke(x, values);
        return answer == null ? "nothing" : answer.toString();
    }

    private static String due(String word) throws ReflectiveOperationException {
        boolean isCode = word.equals(word.toUpperCase()) && Character.isLetter(word.charAt(0));
        return isCode ? "" + TypedTerms.class.getField(word).getInt(null) : word;
    }

    private static void everyMethodIsShown() {
        Set<String> methods = new TreeSet<>();
        for (Method method : TypedTerms.class.getDeclaredMethods()) {
            if (Modifier.isPublic(method.getModifiers())) {
                methods.add(method.getName());
            }
        }
        Check.due("the methods that README.md calls", CALLED.toString(), methods.toString());
    }

    private static void everyCodeIsShown(List<String> lines) throws ReflectiveOperationException {
        Set<String> shown = new TreeSet<>();
        for (String line : lines) {
            Matcher code = CODE.matcher(line);
            if (code.matches()) {
                shown.add(code.group(1) + " " + code.group(2));
            }
        }
        Set<String> codes = new TreeSet<>();
        for (Field field : TypedTerms.class.getFields()) {
            codes.add(field.getName() + " " + field.getInt(null));
        }
        Check.due("the codes that README.md tells", shown.toString(), codes.toString());
    }

    private static void everyTestIsNamed(List<String> lines) {
        Set<String> named = new TreeSet<>();
        for (String line : lines) {
            Matcher test = TEST.matcher(line);
            while (line.startsWith("|") && test.find()) {
                named.add(test.group(1));
            }
        }
        Set<String> tests = new TreeSet<>();
        for (String file : new File("src/test/java").list()) {
            if (file.endsWith("Test.java")) {
                tests.add(file.substring(0, file.length() - ".java".length()));
            }
        }
        Check.due("the tests that README.md names", named.toString(), tests.toString());
    }
}
