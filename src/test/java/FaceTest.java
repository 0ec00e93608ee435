import java.lang.reflect.Constructor;
import java.lang.reflect.Field;
import java.lang.reflect.Method;
import java.lang.reflect.Modifier;
import java.util.Arrays;
import java.util.Set;
import java.util.TreeSet;

/** The public face as the document has it, and rule 1 of LANGUAGE.md. */
public final class FaceTest {
    private static final Expect EXPECT = new Expect();
    private static final String ARGUMENT = " throws IllegalArgumentException";
    private static final String STATE = ", IllegalStateException";

    private static final Set<String> METHODS = new TreeSet<>(Arrays.asList(
        "int product(int, int)" + ARGUMENT,
        "int quotient(int, int)" + ARGUMENT + ", ArithmeticException",
        "int power(int)",
        "int logarithm(int)" + ARGUMENT + ", ArithmeticException",
        "int put(int, long)" + ARGUMENT,
        "int wipe()",
        "int at(int)",
        "int spoil(int, int)" + ARGUMENT + ", IndexOutOfBoundsException",
        "int value(int)" + ARGUMENT,
        "int check(int)" + ARGUMENT + STATE,
        "boolean isCode(int)" + ARGUMENT,
        "int correct(int, int)" + ARGUMENT + STATE,
        "int changed(int)",
        "int word15(int)" + ARGUMENT,
        "int read15(int)" + ARGUMENT,
        "int word18(int)" + ARGUMENT,
        "int read18(int)" + ARGUMENT));

    public static void main(String[] args) {
        EXPECT.due("NONE", () -> FieldCodes.NONE, -1);
        EXPECT.holds("the class is public and final",
            FieldCodes.class.getModifiers() == (Modifier.PUBLIC | Modifier.FINAL));
        constructors();
        methods();
        fields();
        classesInside();
        EXPECT.end();
    }

    private static void constructors() {
        Constructor<?>[] all = FieldCodes.class.getDeclaredConstructors();
        EXPECT.holds("one public constructor without parameters", all.length == 1
            && all[0].getModifiers() == Modifier.PUBLIC && all[0].getParameterCount() == 0);
    }

    private static void methods() {
        Set<String> open = new TreeSet<>();
        Set<String> openNames = new TreeSet<>();
        for (Method method : FieldCodes.class.getDeclaredMethods()) {
            if (!Modifier.isPrivate(method.getModifiers())) {
                EXPECT.holds(method + " is public and no more",
                    method.getModifiers() == Modifier.PUBLIC);
                open.add(told(method));
                openNames.add(method.getName());
            }
        }
        EXPECT.holds("the methods are " + METHODS + ", not " + open, open.equals(METHODS));
        noNameTwice(FieldCodes.class, openNames);
        for (Class<?> inside : FieldCodes.class.getDeclaredClasses()) {
            noNameTwice(inside, openNames);
        }
    }

    private static void noNameTwice(Class<?> owner, Set<String> openNames) {
        for (Method method : owner.getDeclaredMethods()) {
            boolean open = owner == FieldCodes.class && Modifier.isPublic(method.getModifiers());
            EXPECT.holds(method + " bears no public name", open || !openNames.contains(method.getName()));
        }
    }

    private static String told(Method method) {
        StringBuilder told = new StringBuilder();
        told.append(method.getReturnType().getSimpleName()).append(' ').append(method.getName());
        told.append('(').append(names(method.getParameterTypes())).append(')');
        if (method.getExceptionTypes().length > 0) {
            told.append(" throws ").append(names(method.getExceptionTypes()));
        }
        return told.toString();
    }

    private static String names(Class<?>[] types) {
        return String.join(", ", Arrays.stream(types).map(Class::getSimpleName).toList());
    }

    private static void fields() {
        for (Field field : FieldCodes.class.getDeclaredFields()) {
            int flags = field.getModifiers();
            boolean none = field.getName().equals("NONE")
                && flags == (Modifier.PUBLIC | Modifier.STATIC | Modifier.FINAL);
            EXPECT.holds(field + " is private", none || Modifier.isPrivate(flags));
            EXPECT.holds(field + " is final if static",
                !Modifier.isStatic(flags) || Modifier.isFinal(flags));
        }
    }

    private static void classesInside() {
        for (Class<?> inside : FieldCodes.class.getDeclaredClasses()) {
            int flags = inside.getModifiers();
            EXPECT.holds(inside + " is static", Modifier.isStatic(flags));
            EXPECT.holds(inside + " is private or package-visible",
                !Modifier.isPublic(flags) && !Modifier.isProtected(flags));
        }
    }
}
