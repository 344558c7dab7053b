import java.lang.reflect.Constructor;
import java.lang.reflect.Field;
import java.lang.reflect.Method;
import java.lang.reflect.Modifier;
import java.util.Set;
import java.util.TreeSet;

/** The public face is the document's, and there is nothing else to see of the class. */
public final class FaceTest {
    private static final Checks CHECKS = new Checks();

    private static final Set<String> FACE = Set.of(
            "boolean mask int int boolean", "int make int", "int doors", "boolean open int int int",
            "boolean set int boolean", "int loops int", "int path int int", "int at int", "int ends int",
            "int parts", "boolean isTree", "long grade", "long trees int");

    public static void main(String[] args) {
        Class<?> face = MazeForms.class;
        CHECKS.due("modifiers of the class", face.getModifiers(), Modifier.PUBLIC | Modifier.FINAL);
        Set<String> seen = new TreeSet<>();
        for (Method method : face.getDeclaredMethods()) {
            if (!Modifier.isPrivate(method.getModifiers())) {
                CHECKS.due("modifiers of " + method.getName(), method.getModifiers(), Modifier.PUBLIC);
                seen.add(written(method));
            }
        }
        CHECKS.due("the methods", seen.toString(), new TreeSet<>(FACE).toString());
        constructorAndFields(face);
        for (Class<?> inside : face.getDeclaredClasses()) {
            fieldsOf(inside);
            insideOf(inside);
        }
        CHECKS.end();
    }

    private static String written(Method method) {
        StringBuilder text = new StringBuilder(method.getReturnType() + " " + method.getName());
        for (Class<?> type : method.getParameterTypes()) {
            text.append(" ").append(type);
        }
        return text.toString();
    }

    private static void constructorAndFields(Class<?> face) {
        Constructor<?>[] constructors = face.getDeclaredConstructors();
        CHECKS.due("how many constructors", constructors.length, 1);
        CHECKS.due("the constructor", constructors[0].toString(), "public MazeForms(int,int,int)");
        for (Field field : face.getDeclaredFields()) {
            CHECKS.due(field.getName() + " is private", Modifier.isPrivate(field.getModifiers()), true);
        }
        fieldsOf(face);
    }

    /** LANGUAGE.md's first rule: static, not to be seen, and no private method has the name of a public one. */
    private static void insideOf(Class<?> type) {
        String name = type.getSimpleName();
        CHECKS.due(name + " is static", Modifier.isStatic(type.getModifiers()), true);
        CHECKS.due(name + " is private", Modifier.isPrivate(type.getModifiers()), true);
        for (Method method : type.getDeclaredMethods()) {
            boolean hidden = Modifier.isPrivate(method.getModifiers());
            CHECKS.due(name + "." + method.getName() + " is a private namesake", hidden && isOfTheFace(method), false);
        }
    }

    private static boolean isOfTheFace(Method method) {
        for (String written : FACE) {
            if (written.split(" ")[1].equals(method.getName())) {
                return true;
            }
        }
        return false;
    }

    private static void fieldsOf(Class<?> type) {
        for (Field field : type.getDeclaredFields()) {
            if (Modifier.isStatic(field.getModifiers())) {
                String name = type.getSimpleName() + "." + field.getName();
                CHECKS.due(name + " is final", Modifier.isFinal(field.getModifiers()), true);
            }
        }
    }
}
