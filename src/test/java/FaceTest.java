import java.lang.reflect.Constructor;
import java.lang.reflect.Field;
import java.lang.reflect.Method;
import java.lang.reflect.Modifier;
import java.util.Arrays;
import java.util.Set;
import java.util.TreeSet;

/** The public face is that of the document, and nothing else can be seen from outside. */
final class FaceTest {
    private static final String[] METHODS = {
        "boolean write [char] []",
        "int given [] [IllegalArgumentException, IllegalStateException]",
        "int step [int, int, int, int, int, int] [IllegalStateException, NoSuchElementException,"
            + " IllegalArgumentException, UnsupportedOperationException]",
        "int fault [] []",
        "int clauses [] []",
        "int literals [int] []",
        "int size [int] []",
        "int letter [int, int] []",
        "int depth [int] []",
        "boolean needs [int, int] []",
        "int refuted [] []",
        "boolean trivial [int] []",
        "int draft [] []",
    };

    public static void main(String[] args) {
        Check check = new Check();
        check.is("class", Modifier.toString(ProofDesk.class.getModifiers()), "public final");
        Constructor<?>[] constructors = ProofDesk.class.getDeclaredConstructors();
        check.is("constructors", constructors.length, 1);
        check.is("constructor", Modifier.toString(constructors[0].getModifiers()), "public");
        check.is("parameters of the constructor", constructors[0].getParameterCount(), 0);
        Set<String> open = new TreeSet<>();
        Set<String> openNames = new TreeSet<>();
        for (Method method : ProofDesk.class.getDeclaredMethods()) {
            if (!Modifier.isPrivate(method.getModifiers())) {
                check.is(method.getName(), Modifier.toString(method.getModifiers()), "public");
                open.add(described(method));
                openNames.add(method.getName());
            }
        }
        check.is("methods", open.toString(), new TreeSet<>(Arrays.asList(METHODS)).toString());
        for (Field field : ProofDesk.class.getDeclaredFields()) {
            check.is("private " + field.getName(), Modifier.isPrivate(field.getModifiers()), true);
            if (Modifier.isStatic(field.getModifiers())) {
                check.is("final " + field.getName(), Modifier.isFinal(field.getModifiers()), true);
            }
        }
        insideClasses(check, openNames);
        check.end();
    }

    private static void insideClasses(Check check, Set<String> openNames) {
        check.is("few classes", ProofDesk.class.getDeclaredClasses().length < 12, true);
        for (Class<?> inside : ProofDesk.class.getDeclaredClasses()) {
            String name = inside.getSimpleName();
            check.is("static " + name, Modifier.isStatic(inside.getModifiers()), true);
            check.is("not public " + name, Modifier.isPublic(inside.getModifiers()), false);
            check.is("few fields " + name, inside.getDeclaredFields().length <= 20, true);
            for (Method method : inside.getDeclaredMethods()) {
                check.is("name of " + method, openNames.contains(method.getName()), false);
                check.is("parameters of " + method, method.getParameterCount() <= 7, true);
            }
        }
        for (Method method : ProofDesk.class.getDeclaredMethods()) {
            boolean clash = Modifier.isPrivate(method.getModifiers()) && openNames.contains(method.getName());
            check.is("private method with the name of a public one " + method, clash, false);
        }
    }

    private static String described(Method method) {
        return method.getReturnType().getSimpleName() + " " + method.getName() + " "
                + names(method.getParameterTypes()) + " " + names(method.getExceptionTypes());
    }

    private static String names(Class<?>[] types) {
        String[] names = new String[types.length];
        for (int type = 0; type < types.length; type++) {
            names[type] = types[type].getSimpleName();
        }
        return Arrays.toString(names);
    }
}
