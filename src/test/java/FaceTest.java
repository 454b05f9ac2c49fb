import java.io.IOException;
import java.lang.reflect.Constructor;
import java.lang.reflect.Field;
import java.lang.reflect.Method;
import java.lang.reflect.Modifier;
import java.nio.file.Files;
import java.nio.file.Path;
import java.util.Arrays;
import java.util.List;
import java.util.Set;
import java.util.TreeSet;
import java.util.stream.Collectors;

/**
 * The public face is the document's, and nothing else of the class can be seen. It is run from the
 * project's folder.
 */
public final class FaceTest {
    private static final Path DOCUMENT = Path.of("../shared/DOC.md");
    private static final Path SOURCE = Path.of("src/main/java/TendonLosses.java");
    private static final Set<String> FACE = new TreeSet<>(Arrays.asList(
            "int tendon(int)", "int point(int, int, int)", "boolean friction(int, int)",
            "boolean losses(int, int, int)", "int pull(int, int, int)", "int lock(int)",
            "boolean cut(int)", "int days(int)", "int force(int, int)", "int at(int, int)",
            "int longer(int)", "int piece(int, int, int)", "int presses(int, int)",
            "boolean clash(int, int, int)", "int locked(int)", "int wanted(int, int, int, int)",
            "int count(int)"));

    public static void main(String[] args) throws IOException {
        Checks checks = new Checks();
        Class<?> face = TendonLosses.class;
        int modifiers = face.getModifiers();
        checks.due("the class is public and final",
                Modifier.isPublic(modifiers) && Modifier.isFinal(modifiers), true);
        methods(checks, face);
        for (Field field : face.getDeclaredFields()) {
            boolean isBad = field.getName().equals("BAD");
            checks.due("private " + field, Modifier.isPrivate(field.getModifiers()), !isBad);
            boolean isFixed = !Modifier.isStatic(field.getModifiers()) || Modifier.isFinal(field.getModifiers());
            checks.due("no static state " + field, isFixed, true);
        }
        Constructor<?>[] constructors = face.getDeclaredConstructors();
        checks.due("constructors", constructors.length, 1);
        checks.due("a public constructor", Modifier.isPublic(constructors[0].getModifiers()), true);
        checks.due("its parameters", constructors[0].getParameterCount(), 0);
        for (Class<?> inside : face.getDeclaredClasses()) {
            checks.due("static " + inside, Modifier.isStatic(inside.getModifiers()), true);
            checks.due("public " + inside, Modifier.isPublic(inside.getModifiers()), false);
        }
        lines(checks);
        checks.finish();
    }

    /** Every public line of the document's face stands in the class with the same words, and no other. */
    private static void lines(Checks checks) throws IOException {
        if (!Files.exists(DOCUMENT)) {
            System.out.println("lines not looked at: there is no " + DOCUMENT);
            return;
        }
        List<String> due = publicLines(DOCUMENT);
        checks.due("public lines of the document", due.size(), 20);
        checks.due("public lines", publicLines(SOURCE), due);
    }

    private static List<String> publicLines(Path file) throws IOException {
        return Files.readAllLines(file).stream().map(String::trim).filter(line -> line.startsWith("public "))
                .map(line -> line.replaceFirst("( \\{|;)$", "")).sorted().collect(Collectors.toList());
    }

    private static void methods(Checks checks, Class<?> face) {
        Set<String> seen = new TreeSet<>();
        Set<String> names = new TreeSet<>();
        for (Method method : face.getDeclaredMethods()) {
            if (Modifier.isPublic(method.getModifiers())) {
                seen.add(shape(method));
                names.add(method.getName());
            }
        }
        checks.due("the public methods " + seen, seen.equals(FACE), true);
        for (Method method : face.getDeclaredMethods()) {
            if (!Modifier.isPublic(method.getModifiers())) {
                checks.due("private " + method, Modifier.isPrivate(method.getModifiers()), true);
                checks.due("named as a public one: " + method, names.contains(method.getName()), false);
            }
        }
    }

    private static String shape(Method method) {
        StringBuilder text = new StringBuilder();
        text.append(method.getReturnType().getName()).append(' ').append(method.getName()).append('(');
        Class<?>[] parameters = method.getParameterTypes();
        for (int i = 0; i < parameters.length; i++) {
            text.append(i == 0 ? "" : ", ").append(parameters[i].getName());
        }
        return text.append(')').toString();
    }
}
