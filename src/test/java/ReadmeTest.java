import java.io.IOException;
import java.lang.reflect.InvocationTargetException;
import java.lang.reflect.Method;
import java.lang.reflect.Modifier;
import java.lang.reflect.Parameter;
import java.nio.file.Files;
import java.nio.file.Path;
import java.util.Set;
import java.util.TreeSet;
import java.util.regex.Matcher;
import java.util.regex.Pattern;

/** README.md: its example answers what its comments say, and its table has every method. */
public final class ReadmeTest {
    private static final Expect EXPECT = new Expect();
    private static final Pattern EXAMPLE =
        Pattern.compile("codes\\.(\\w+)\\(([^)]*)\\); +// (throws )?(-?\\w+)");

    public static void main(String[] args) throws IOException {
        String readme = Files.readString(Path.of("README.md"));
        example(readme);
        table(readme);
        EXPECT.end();
    }

    private static void example(String readme) {
        FieldCodes codes = new FieldCodes();
        Set<String> used = new TreeSet<>();
        Matcher line = EXAMPLE.matcher(readme);
        while (line.find()) {
            String want = line.group(3) == null ? line.group(4) : "throws." + line.group(4);
            String got = answer(codes, method(line.group(1)), line.group(2).split(", "));
            EXPECT.holds(line.group() + " (it is " + got + ")", got.equals(want));
            used.add(line.group(1));
        }
        for (Method method : FieldCodes.class.getDeclaredMethods()) {
            EXPECT.holds("the example has " + method.getName(),
                !isOpen(method) || used.contains(method.getName()));
        }
    }

    private static String answer(FieldCodes codes, Method method, String[] texts) {
        Parameter[] parameters = method.getParameters();
        Object[] values = new Object[parameters.length];
        for (int k = 0; k < values.length; k++) {
            long number = Long.decode(texts[k]);
            if (parameters[k].getType() == int.class) {
                values[k] = (int) number;
            } else {
                values[k] = number;
            }
        }
        try {
            return String.valueOf(method.invoke(codes, values));
        } catch (InvocationTargetException thrown) {
            return "throws." + thrown.getCause().getClass().getSimpleName();
        } catch (IllegalAccessException closed) {
            return closed.toString();
        }
    }

    private static Method method(String name) {
        for (Method method : FieldCodes.class.getDeclaredMethods()) {
            if (isOpen(method) && method.getName().equals(name)) {
                return method;
            }
        }
        throw new AssertionError("README.md names " + name + ", which is no method");
    }

    /** Each row of the table names what its method throws, in order, and nothing else. */
    private static void table(String readme) {
        for (Method method : FieldCodes.class.getDeclaredMethods()) {
            if (!isOpen(method)) {
                continue;
            }
            Matcher row = Pattern.compile("\\| \\**`" + method.getName() + "\\(.*").matcher(readme);
            boolean found = row.find();
            EXPECT.holds("the table has " + method.getName(), found);
            String text = found ? row.group() : "";
            int from = 0;
            for (Class<?> thrown : method.getExceptionTypes()) {
                from = text.indexOf("`" + thrown.getSimpleName() + "`:", from) + 1;
                EXPECT.holds(method.getName() + " refuses with " + thrown.getSimpleName(), from > 0);
            }
            EXPECT.holds(method.getName() + " throws no more than it declares",
                text.split("Exception`:", -1).length - 1 == method.getExceptionTypes().length);
        }
    }

    private static boolean isOpen(Method method) {
        return Modifier.isPublic(method.getModifiers());
    }
}
