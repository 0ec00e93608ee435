import java.io.IOException;
import java.lang.reflect.Executable;
import java.lang.reflect.Field;
import java.lang.reflect.Modifier;
import java.nio.file.Files;
import java.nio.file.Path;
import java.util.ArrayList;
import java.util.List;
import java.util.regex.Matcher;
import java.util.regex.Pattern;

/** What can be seen of LANGUAGE.md's rules in the text and the classes of the program. */
public final class LanguageTest {
    private static final Expect EXPECT = new Expect();
    private static final List<String> THROWN = List.of("IllegalStateException",
        "IllegalArgumentException", "IndexOutOfBoundsException", "ArithmeticException",
        "UnsupportedOperationException", "NoSuchElementException", "RuntimeException");

    public static void main(String[] args) throws IOException {
        String text = Files.readString(Path.of("src/main/java/FieldCodes.java"));
        String code = withoutCommentsAndTexts(text);
        wordsOutsideTheRules(code);
        libraryInUse(code);
        exceptions(code);
        lengthsOfMethods(text);
        for (Class<?> each : classes()) {
            members(each);
        }
        EXPECT.holds("rule 11: some twelve classes at most", classes().size() <= 12);
        EXPECT.end();
    }

    private static String withoutCommentsAndTexts(String text) {
        return text.replaceAll("(?s)/\\*.*?\\*/", " ").replaceAll("//.*", " ")
            .replaceAll("\"[^\"\n]*\"", "\"\"");
    }

    private static void wordsOutsideTheRules(String code) {
        for (String word : List.of("package", "import", "synchronized", "assert", "finally", "volatile",
            "native", "transient", "strictfp", "var", "equals", "hashCode", "toString", "getClass",
            "Thread", "Random", "Object", "try", "catch", "public static void", "Exact")) {
            EXPECT.holds("no " + word, !Pattern.compile("\\b" + word + "\\b").matcher(code).find());
        }
        EXPECT.holds("rule 2: no lambda", !code.contains("->"));
        EXPECT.holds("rule 2: no method reference", !code.contains("::"));
        EXPECT.holds("rule 5: no static initialiser", !Pattern.compile("static\\s*\\{").matcher(code)
            .find());
    }

    private static void libraryInUse(String code) {
        Matcher use = Pattern.compile("\\b(System|Math|Integer|Long|Arrays|String)\\.(\\w+)")
            .matcher(code);
        while (use.find()) {
            EXPECT.holds("rule 4: " + use.group(), List.of("System.arraycopy", "Math.floorMod",
                "Integer.bitCount").contains(use.group()));
        }
    }

    private static void exceptions(String code) {
        Matcher made = Pattern.compile("\\bthrow\\b(.*)").matcher(code);
        while (made.find()) {
            String thrown = made.group(1).replaceFirst("^ new (\\w+)\\((\"\")?\\);$", "$1");
            EXPECT.holds("rule 6: throw" + made.group(1), THROWN.contains(thrown));
        }
    }

    /** A method ends with the first closing brace as far in as its first line. */
    private static void lengthsOfMethods(String text) {
        Matcher method = Pattern.compile("(?ms)^( {4}| {8})[a-zA-Z][^\\n;=]*\\([^\\n]*\\{$.*?^\\1\\}$")
            .matcher(text);
        int count = 0;
        while (method.find()) {
            count++;
            long lines = method.group().lines().count();
            EXPECT.holds("rule 11: " + method.group().lines().findFirst().orElse("") + " has "
                + lines + " lines", lines <= 60);
        }
        EXPECT.holds("there are methods", count > 30);
    }

    private static List<Class<?>> classes() {
        List<Class<?>> classes = new ArrayList<>();
        classes.add(FieldCodes.class);
        classes.addAll(List.of(FieldCodes.class.getDeclaredClasses()));
        return classes;
    }

    private static void members(Class<?> each) {
        int fields = 0;
        for (Field field : each.getDeclaredFields()) {
            int flags = field.getModifiers();
            if (Modifier.isStatic(flags)) {
                EXPECT.holds("rule 5: " + field + " is a constant",
                    Modifier.isFinal(flags) && field.getType() == int.class);
            } else {
                fields++;
            }
        }
        EXPECT.holds("rule 11: some twenty fields at most in " + each, fields <= 20);
        List<Executable> all = new ArrayList<>(List.of(each.getDeclaredMethods()));
        all.addAll(List.of(each.getDeclaredConstructors()));
        for (Executable one : all) {
            EXPECT.holds("rule 11: seven parameters at most in " + one, one.getParameterCount() <= 7);
        }
    }
}
