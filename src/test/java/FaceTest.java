import java.lang.reflect.Constructor;
import java.lang.reflect.Field;
import java.lang.reflect.Method;
import java.lang.reflect.Modifier;
import java.util.Arrays;
import java.util.TreeSet;

/** The public face, as the document has it, and what rules 1 and 5 of LANGUAGE.md say of members. */
public final class FaceTest {
    private static final String[] FACE = {
        "append(int, long) boolean", "assume(int, int) boolean", "cause(int, int) int",
        "check(int, int) boolean", "condition(int, int, int) int", "count(int) int",
        "difference(int, int) int", "group(int, int) int", "holds(int, int) boolean",
        "ignore(int, boolean) boolean", "number(long) int", "put(int, int, int) boolean",
        "real(double) int", "rules(boolean, boolean, int) boolean", "same(int, int) boolean",
        "settle() int", "shown(int, int) int", "step(int) int", "text(long) int",
        "way(int, int) int"
    };

    public static void main(String[] args) {
        Due.is("NONE", GraphCheck.NONE, -1);
        Due.yes("the class is final", Modifier.isFinal(GraphCheck.class.getModifiers()));
        testMethods();
        testConstructorsAndFields();
        for (Class<?> inside : GraphCheck.class.getDeclaredClasses()) {
            testClassInside(inside);
        }
        Due.end();
    }

    private static void testMethods() {
        TreeSet<String> open = new TreeSet<>();
        TreeSet<String> openNames = new TreeSet<>();
        TreeSet<String> closedNames = new TreeSet<>();
        for (Method method : GraphCheck.class.getDeclaredMethods()) {
            if (Modifier.isPrivate(method.getModifiers())) {
                closedNames.add(method.getName());
            } else {
                open.add(signature(method));
                openNames.add(method.getName());
            }
        }
        Due.text("the methods", open.toString(), new TreeSet<>(Arrays.asList(FACE)).toString());
        closedNames.retainAll(openNames);
        Due.text("private methods of public names", closedNames.toString(), "[]");
    }

    private static String signature(Method method) {
        String parameters = Arrays.toString(method.getParameterTypes());
        return method.getName() + "(" + parameters.substring(1, parameters.length() - 1) + ") "
                + method.getReturnType();
    }

    private static void testConstructorsAndFields() {
        Constructor<?>[] constructors = GraphCheck.class.getDeclaredConstructors();
        Due.is("constructors", constructors.length, 1);
        Due.yes("the constructor is public", Modifier.isPublic(constructors[0].getModifiers()));
        Due.is("what the constructor takes", constructors[0].getParameterCount(), 0);
        for (Field field : GraphCheck.class.getDeclaredFields()) {
            boolean isNone = field.getName().equals("NONE");
            Due.is(field.getName() + " is public", field.getModifiers() & Modifier.PUBLIC, isNone ? 1 : 0);
            Due.yes(field.getName() + " is NONE or private",
                    isNone || Modifier.isPrivate(field.getModifiers()));
            testStaticIsFinal(field);
        }
    }

    private static void testClassInside(Class<?> inside) {
        Due.yes(inside + " is static", Modifier.isStatic(inside.getModifiers()));
        Due.no(inside + " is public", Modifier.isPublic(inside.getModifiers()));
        for (Field field : inside.getDeclaredFields()) {
            testStaticIsFinal(field);
        }
    }

    private static void testStaticIsFinal(Field field) {
        int modifiers = field.getModifiers();
        Due.yes(field + " is final, if static",
                !Modifier.isStatic(modifiers) || Modifier.isFinal(modifiers));
    }
}
