import java.lang.reflect.Constructor;
import java.lang.reflect.Field;
import java.lang.reflect.Method;
import java.lang.reflect.Modifier;
import java.nio.file.Files;
import java.nio.file.Path;
import java.util.ArrayList;
import java.util.List;

/** The class's members against the face in the document, and the document's examples. */
public final class FaceTest {
    public static void main(String[] args) throws Exception {
        List<String> due = documentedFace();
        List<String> actual = new ArrayList<>();
        for (Constructor<?> constructor : Madeham.class.getDeclaredConstructors()) {
            actual.add(told(constructor.getModifiers(), "", "Madeham", constructor.getParameterTypes(),
                    constructor.getExceptionTypes()));
        }
        for (Method method : Madeham.class.getDeclaredMethods()) {
            if (Modifier.isPrivate(method.getModifiers())) {
                Due.same("private " + method.getName() + " bears a public name", false, isPublic(method.getName()));
            } else {
                actual.add(told(method.getModifiers(), method.getReturnType().getName() + " ", method.getName(),
                        method.getParameterTypes(), method.getExceptionTypes()));
            }
        }
        due.sort(null);
        actual.sort(null);
        Due.same("members of the face", 40, due.size());
        Due.same("the face", due, actual);
        fieldsAndClasses();
        firstExample();
        secondExample();
        thirdExample();
        Due.end();
    }

    private static boolean isPublic(String name) {
        for (Method method : Madeham.class.getMethods()) {
            if (method.getName().equals(name)) {
                return true;
            }
        }
        return false;
    }

    private static List<String> documentedFace() throws Exception {
        List<String> face = new ArrayList<>();
        boolean isInside = false;
        for (String line : Files.readAllLines(Path.of("../shared/DOC.md"))) {
            if (line.equals("}")) {
                break;
            }
            if (isInside) {
                face.add(line.trim().replaceAll("(\\w+) [a-z]\\w*(?=[,)])", "$1").replace(", ", ",").replace(";", ""));
            }
            isInside |= line.startsWith("public final class Madeham");
        }
        return face;
    }

    private static String told(int modifiers, String type, String name, Class<?>[] takes, Class<?>[] exceptions) {
        StringBuilder text = new StringBuilder(Modifier.toString(modifiers)).append(' ').append(type).append(name);
        text.append('(').append(joined(takes)).append(')');
        return exceptions.length == 0 ? text.toString() : text.append(" throws ").append(joined(exceptions)).toString();
    }

    private static String joined(Class<?>[] types) {
        StringBuilder text = new StringBuilder();
        for (Class<?> type : types) {
            text.append(text.length() == 0 ? "" : ",").append(type.getSimpleName());
        }
        return text.toString();
    }

    private static void fieldsAndClasses() {
        Due.same("public and final", Modifier.PUBLIC | Modifier.FINAL, Madeham.class.getModifiers());
        for (Field field : Madeham.class.getDeclaredFields()) {
            int modifiers = field.getModifiers();
            Due.same("private field " + field.getName(), true, Modifier.isPrivate(modifiers));
            boolean isFree = !Modifier.isStatic(modifiers) || Modifier.isFinal(modifiers);
            Due.same("static field " + field.getName() + " is final", true, isFree);
        }
        for (Class<?> inside : Madeham.class.getDeclaredClasses()) {
            int modifiers = inside.getModifiers();
            Due.same("class " + inside.getName(), true, Modifier.isStatic(modifiers) && !Modifier.isPublic(modifiers)
                    && !Modifier.isProtected(modifiers));
        }
    }

    private static Madeham exampleTown() {
        Madeham town = new Madeham();
        Due.is("example addPlace", 0, town::addPlace);
        Due.is("example setGroup", 0, () -> town.setGroup(0, 2));
        Due.is("example setHomes", 0, () -> town.setHomes(0, 2));
        Due.is("example make", 2, town::make);
        Due.is("example setTrait", 14, () -> town.setTrait(0, 0, 10));
        Due.is("example setTrait", 63, () -> town.setTrait(1, 0, 30));
        return town;
    }

    private static void firstExample() {
        Madeham town = exampleTown();
        Due.is("example addRule", 0, () -> town.addRule('a', 0, 0, 20, 5, 100));
        Due.is("example pass", 2, () -> town.pass(2));
        Due.is("example trait", 10, () -> town.trait(0, 0));
        Due.is("example trait", 40, () -> town.trait(1, 0));
        Due.is("example cause", 500, () -> town.cause(0, 0));
    }

    private static void secondExample() {
        Madeham town = exampleTown();
        Due.is("example tie", false, () -> town.tie(0, 1, true));
        Due.is("example addRule", 0, () -> town.addRule('i', 0, 0, 0, 4, 100));
        Due.is("example pass", 1, () -> town.pass(1));
        Due.is("example trait", 14, () -> town.trait(0, 0));
        Due.is("example trait", 26, () -> town.trait(1, 0));
    }

    private static void thirdExample() {
        Madeham town = new Madeham();
        Due.is("example addPlace", 0, town::addPlace);
        Due.is("example addPlace", 1, town::addPlace);
        Due.is("example link", 0, () -> town.link(0, 1, 40));
        Due.is("example way", 40, () -> town.way(0, 1));
        Due.is("example draw", 1, () -> town.draw(0, 0, 0));
        Due.is("example draw", 61, () -> town.draw(1, 2, 3));
    }
}
