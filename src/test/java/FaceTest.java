import java.lang.reflect.Constructor;
import java.lang.reflect.Field;
import java.lang.reflect.Method;
import java.lang.reflect.Modifier;
import java.util.Arrays;
import java.util.Set;
import java.util.TreeSet;

/** The face of the class is the document's, to the letter: LANGUAGE.md, rules 1 and 5. */
public final class FaceTest {
    private static final String[] FACE = {
        "int letter(int)", "int blank()", "int fault()", "int school()", "int lesson(int, int)",
        "int stripes(int)", "int prince(int, int)", "int about(int, int)", "int as(int, int)",
        "int give(int, int)", "int fond(int, int, int)", "int tenths(int, int)",
        "int teach(int, int, boolean)", "long order(int, int)", "int match(int, int)",
        "int faults(int, int, int)", "int hear(int, int, boolean)", "int forget()",
        "int fondness(int)", "int schools(int, int, int)", "int image()", "int restore()",
        "int count(int)", "long digest()"};

    public static void main(String[] args) {
        Due due = new Due("face");
        due.is("public and final", Modifier.PUBLIC | Modifier.FINAL, BeatenInstead.class.getModifiers());
        methods(due);
        constants(due);
        Constructor<?>[] constructors = BeatenInstead.class.getDeclaredConstructors();
        due.is("constructors", 1, constructors.length);
        due.is("the constructor's parameters", 0, constructors[0].getParameterCount());
        due.is("the constructor is public", Modifier.PUBLIC, constructors[0].getModifiers());
        for (Class<?> inside : BeatenInstead.class.getDeclaredClasses()) {
            due.isTrue(inside + " is static", Modifier.isStatic(inside.getModifiers()));
            due.isTrue(inside + " is not public", !Modifier.isPublic(inside.getModifiers()));
            staticFieldsAreFinal(due, inside);
        }
        due.end();
    }

    private static void methods(Due due) {
        Set<String> seen = new TreeSet<>();
        Set<String> names = new TreeSet<>();
        for (Method method : BeatenInstead.class.getDeclaredMethods()) {
            if (Modifier.isPublic(method.getModifiers())) {
                seen.add(shapeOf(method));
                names.add(method.getName());
            }
        }
        due.isTrue("methods: " + seen, seen.equals(new TreeSet<>(Arrays.asList(FACE))));
        for (Method method : BeatenInstead.class.getDeclaredMethods()) {
            if (!Modifier.isPublic(method.getModifiers())) {
                due.isTrue(method + " is private", Modifier.isPrivate(method.getModifiers()));
                due.isTrue(method + " bears no public one's name", !names.contains(method.getName()));
            }
        }
    }

    private static String shapeOf(Method method) {
        String parameters = Arrays.toString(method.getParameterTypes());
        return method.getReturnType() + " " + method.getName()
                + "(" + parameters.substring(1, parameters.length() - 1) + ")";
    }

    private static void constants(Due due) {
        due.is("NONE", -1, BeatenInstead.NONE);
        due.is("UNKNOWN", -101, BeatenInstead.UNKNOWN);
        due.is("OUTSIDE", -102, BeatenInstead.OUTSIDE);
        due.is("STATE", -103, BeatenInstead.STATE);
        due.is("FULL", -104, BeatenInstead.FULL);
        int visible = 0;
        for (Field field : BeatenInstead.class.getDeclaredFields()) {
            visible += Modifier.isPrivate(field.getModifiers()) ? 0 : 1;
        }
        due.is("fields that are not private", 5, visible);
        staticFieldsAreFinal(due, BeatenInstead.class);
    }

    private static void staticFieldsAreFinal(Due due, Class<?> of) {
        for (Field field : of.getDeclaredFields()) {
            int modifiers = field.getModifiers();
            due.isTrue(field + " is final", !Modifier.isStatic(modifiers) || Modifier.isFinal(modifiers));
        }
    }
}
