import java.io.IOException;
import java.lang.reflect.Constructor;
import java.lang.reflect.Field;
import java.lang.reflect.Method;
import java.lang.reflect.Modifier;
import java.nio.file.Files;
import java.nio.file.Paths;
import java.util.List;
import java.util.regex.Pattern;

/** What LANGUAGE.md rules out and a look at the text can find. */
public final class LanguageTest {
    private static final String[][] RULED_OUT = {
        {"4 an import", "^import (?!java\\.util\\.(ArrayList|NoSuchElementException);)"},
        {"2 a lambda or method reference", "->|::"},
        {"4 a call that throws by itself", "Exact\\("},
        {"5 other static state", "^ +(private )?static (?!final|class|int \\w+\\(|boolean \\w+\\(|void \\w+\\()"},
        {"5 a static block", "static \\{"},
        {"6 catch, finally or assert", "\\b(catch|finally|assert|synchronized)\\b"},
        {"6 an exception with a made text", "throw new \\w+\\((?!\"[^\"]*\"\\);)"},
        {"6 another throw", "\\bthrow (?!new )"},
        {"13 the world outside", "\\b(System\\.(?!arraycopy)|Thread|Random|Math\\.random)"},
        {"4 an object's own text or hash", "\\b(hashCode|toString|equals)\\("},
        {"a line too long", "^.{121,}"}};
    private static final int LONGEST_METHOD = 60;
    private static final int MOST_PARAMETERS = 7;
    private static final int MOST_CLASSES = 12;
    private static final int MOST_FIELDS = 20;

    public static void main(String[] args) throws IOException {
        Check check = new Check("LanguageTest");
        List<String> lines = Files.readAllLines(Paths.get("src/main/java/Scrumward.java"));
        check.due("the class is read", lines.size() > 100, true);
        int start = 0;
        for (int i = 0; i < lines.size(); i++) {
            String line = lines.get(i);
            for (String[] rule : RULED_OUT) {
                check.due("rule " + rule[0] + ", line " + (i + 1), Pattern.compile(rule[1]).matcher(line).find(), false);
            }
            check.due("signs of line " + (i + 1), line.chars().allMatch(sign -> sign >= 32 && sign < 127), true);
            if (line.endsWith("{") && !line.contains("class ")) {
                start = line.matches(" {4}(    )?\\S.*\\) (throws .*)?\\{") ? i : start;
            } else if (line.matches(" {4}(    )?\\}")) {
                check.due("the length of what ends at line " + (i + 1), i - start <= LONGEST_METHOD || start == 0, true);
                start = 0;
            }
        }
        sizes(check);
        check.end();
    }

    /** Rules 5 and 11: how many classes, fields and parameters, and that static fields are final. */
    private static void sizes(Check check) {
        Class<?>[] inside = Scrumward.class.getDeclaredClasses();
        check.due("11 the number of classes", inside.length + 1 <= MOST_CLASSES, true);
        sizesOf(check, Scrumward.class);
        for (Class<?> one : inside) {
            sizesOf(check, one);
        }
    }

    private static void sizesOf(Check check, Class<?> one) {
        int fields = 0;
        for (Field field : one.getDeclaredFields()) {
            boolean isStatic = Modifier.isStatic(field.getModifiers());
            fields += isStatic ? 0 : 1;
            check.due("5 static and not final: " + field, isStatic && !Modifier.isFinal(field.getModifiers()), false);
        }
        check.due("11 the fields of " + one, fields <= MOST_FIELDS, true);
        for (Method method : one.getDeclaredMethods()) {
            check.due("11 the parameters of " + method, method.getParameterCount() <= MOST_PARAMETERS, true);
        }
        for (Constructor<?> constructor : one.getDeclaredConstructors()) {
            check.due("11 the parameters of " + constructor, constructor.getParameterCount() <= MOST_PARAMETERS, true);
        }
    }
}
