import java.lang.reflect.Constructor;
import java.lang.reflect.Field;
import java.lang.reflect.Method;
import java.lang.reflect.Modifier;
import java.util.Arrays;
import java.util.Set;
import java.util.TreeSet;

/** The public face is the document's, and nothing else of the class can be seen. */
public final class FaceTest {
    private static final Set<String> FACE = new TreeSet<>(Arrays.asList(
            "int tendon(int)", "int point(int, int, int)", "boolean friction(int, int)",
            "boolean losses(int, int, int)", "int pull(int, int, int)", "int lock(int)",
            "boolean cut(int)", "int days(int)", "int force(int, int)", "int at(int, int)",
            "int longer(int)", "int piece(int, int, int)", "int presses(int, int)",
            "boolean clash(int, int, int)", "int locked(int)", "int wanted(int, int, int, int)",
            "int count(int)"));

    public static void main(String[] args) {
        Checks checks = new Checks();
        Class<?> face = TendonLosses.class;
        int modifiers = face.getModifiers();
        checks.due("the class is public and final",
                Modifier.isPublic(modifiers) && Modifier.isFinal(modifiers), true);
        methods(checks, face);
        for (Field field : face.getDeclaredFields()) {
            boolean isBad = field.getName().equals("BAD");
            checks.due("private " + field, Modifier.isPrivate(field.getModifiers()), !isBad);
            boolean isFixed = !Modifier.isStatic(field.getModifiers()) || Modifier.isFinal(field.getModifiers());
            checks.due("no static state " + field, isFixed, true);
        }
        Constructor<?>[] constructors = face.getDeclaredConstructors();
        checks.due("constructors", constructors.length, 1);
        checks.due("a public constructor", Modifier.isPublic(constructors[0].getModifiers()), true);
        checks.due("its parameters", constructors[0].getParameterCount(), 0);
        for (Class<?> inside : face.getDeclaredClasses()) {
            checks.due("static " + inside, Modifier.isStatic(inside.getModifiers()), true);
            checks.due("public " + inside, Modifier.isPublic(inside.getModifiers()), false);
        }
        checks.finish();
    }

    private static void methods(Checks checks, Class<?> face) {
        Set<String> seen = new TreeSet<>();
        Set<String> names = new TreeSet<>();
        for (Method method : face.getDeclaredMethods()) {
            if (Modifier.isPublic(method.getModifiers())) {
                seen.add(shape(method));
                names.add(method.getName());
            }
        }
        checks.due("the public methods " + seen, seen.equals(FACE), true);
        for (Method method : face.getDeclaredMethods()) {
            if (!Modifier.isPublic(method.getModifiers())) {
                checks.due("private " + method, Modifier.isPrivate(method.getModifiers()), true);
                checks.due("named as a public one: " + method, names.contains(method.getName()), false);
            }
        }
    }

    private static String shape(Method method) {
        StringBuilder text = new StringBuilder();
        text.append(method.getReturnType().getName()).append(' ').append(method.getName()).append('(');
        Class<?>[] parameters = method.getParameterTypes();
        for (int i = 0; i < parameters.length; i++) {
            text.append(i == 0 ? "" : ", ").append(parameters[i].getName());
        }
        return text.append(')').toString();
    }
}
