import java.io.IOException;
import java.lang.reflect.Field;
import java.lang.reflect.Method;
import java.lang.reflect.Modifier;
import java.nio.file.Files;
import java.nio.file.Path;
import java.util.ArrayList;
import java.util.List;
import java.util.Set;
import java.util.TreeSet;
import java.util.regex.Matcher;
import java.util.regex.Pattern;

/**
 * The rules of LANGUAGE.md that can be read off the class and its text. Narrower than the rules are: what the
 * class does not need is refused here, and may be let in when it does and the rules have it.
 */
public final class LanguageTest {
    private static final Set<String> LIBRARY = Set.of("Math.abs", "Math.max", "Math.min", "Integer.bitCount");
    private static final Set<String> THROWN = Set.of(
        "IllegalStateException", "IllegalArgumentException", "IndexOutOfBoundsException");
    private static final int LONGEST_METHOD = 60;
    private static final int MOST_PARAMETERS = 7;
    private static final int MOST_CLASSES = 12;
    private static final int MOST_FIELDS = 20;

    private final String text;
    /** The text without its comments; each written text in it is a mere TEXT. */
    private final String code;

    private LanguageTest(String text) {
        this.text = text;
        code = text.replaceAll("(?s)/\\*.*?\\*/", "").replaceAll("//[^\n]*", "").replaceAll("\"[^\"\n]*\"", "TEXT");
    }

    public static void main(String[] args) throws IOException {
        String file = args.length > 0 ? args[0] : "src/main/java/TeapotChoir.java";
        LanguageTest test = new LanguageTest(Files.readString(Path.of(file)));
        test.signs();
        test.words();
        test.library();
        test.exceptions();
        test.lengths();
        classes();
        Checks.end();
    }

    /** Rule 4: the signs of constants are 1 to 127; here all signs are. */
    private void signs() {
        Checks.due("signs beyond 127", text.chars().filter(sign -> sign < 1 || sign > 127).count(), 0L);
    }

    /** Rules 1, 2, 3, 4 and 6; no catch at all, as nothing throws that the class would have to catch. */
    private void words() {
        String[] none = {
            "package", "import", "try", "catch", "finally", "synchronized", "assert", "volatile", "transient",
            "native", "protected", "instanceof", "Object", "hashCode", "equals", "toString", "var", "String"
        };
        for (String word : none) {
            Checks.due("the word " + word, found("\\b" + word + "\\b"), List.of());
        }
        Checks.due("lambdas and method references", found("->|::"), List.of());
        Checks.due("texts joined by +", found("TEXT\\s*\\+|\\+\\s*TEXT"), List.of());
        Checks.due("static initialisers", found("\\bstatic\\s*\\{"), List.of());
    }

    /** Rule 4: nothing of the library but what stands there. */
    private void library() {
        Set<String> used = new TreeSet<>(found("\\b[A-Z][a-z]\\w*\\.\\w+"));
        used.removeAll(LIBRARY);
        Checks.due("of the library", used, Set.of());
    }

    /** Rule 6: a new one with a written text, of the classes that the document names. */
    private void exceptions() {
        for (String line : found("\\bthrow\\b[^;]*;")) {
            Matcher made = Pattern.compile("throw new (\\w+)\\(TEXT\\);").matcher(line);
            Checks.due(line + " is as rule 6 asks", made.matches() && THROWN.contains(made.group(1)), true);
        }
    }

    /** Rule 11: methods stay short. */
    private void lengths() {
        Pattern head = Pattern.compile("^( {4}| {8})(?! |if|for|while|switch)[\\w \\[\\]]+\\(.*\\{$");
        String[] lines = code.split("\n");
        int methods = 0;
        for (int start = 0; start < lines.length; start++) {
            Matcher method = head.matcher(lines[start]);
            if (method.matches()) {
                int end = start;
                while (end < lines.length && !lines[end].equals(method.group(1) + "}")) {
                    end++;
                }
                Checks.due(lines[start].trim() + " is short", end - start < LONGEST_METHOD, true);
                methods++;
            }
        }
        // The constructor is the one that is not among the declared methods.
        int declared = 1;
        for (Class<?> one : all()) {
            declared += one.getDeclaredMethods().length;
        }
        Checks.due("methods that were looked at", methods, declared);
    }

    private static List<Class<?>> all() {
        List<Class<?>> all = new ArrayList<>();
        all.add(TeapotChoir.class);
        all.addAll(List.of(TeapotChoir.class.getDeclaredClasses()));
        return all;
    }

    /** Rules 1, 2, 5 and 11. */
    private static void classes() {
        Checks.due("few classes", all().size() <= MOST_CLASSES, true);
        for (Class<?> one : all()) {
            boolean inside = one != TeapotChoir.class;
            int kind = one.getModifiers();
            Checks.due(one + " is static inside", Modifier.isStatic(kind), inside);
            Checks.due(one + " is hidden inside", !Modifier.isPublic(kind) && !Modifier.isProtected(kind), inside);
            Checks.due(one + " has none inside", one.getDeclaredClasses().length > 0 && inside, false);
            fields(one);
            for (Method method : one.getDeclaredMethods()) {
                Checks.due(method + " takes few", method.getParameterCount() <= MOST_PARAMETERS, true);
            }
        }
    }

    /** The only static fields are constants of int. */
    private static void fields(Class<?> one) {
        int ofObject = 0;
        for (Field field : one.getDeclaredFields()) {
            if (Modifier.isStatic(field.getModifiers())) {
                boolean constant = Modifier.isFinal(field.getModifiers()) && field.getType() == int.class;
                Checks.due(field + " is a constant", constant, true);
            } else {
                ofObject++;
            }
        }
        Checks.due(one + " has few fields", ofObject <= MOST_FIELDS, true);
    }

    private List<String> found(String pattern) {
        List<String> all = new ArrayList<>();
        Matcher matcher = Pattern.compile(pattern).matcher(code);
        while (matcher.find()) {
            all.add(matcher.group());
        }
        return all;
    }
}
