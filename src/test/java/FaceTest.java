import java.io.IOException;
import java.lang.reflect.Constructor;
import java.lang.reflect.Field;
import java.lang.reflect.Method;
import java.lang.reflect.Modifier;
import java.nio.file.Files;
import java.nio.file.Path;
import java.util.ArrayList;
import java.util.Arrays;
import java.util.List;
import java.util.TreeSet;

/** The face of the class is that of the document, and nothing else of it can be seen from outside. */
public final class FaceTest {
    private FaceTest() {
    }

    public static void main(String[] args) throws IOException {
        TreeSet<String> due = faceOfDocument();
        Check.same("the document has a face", true, due.size() > 60);
        Check.same("face", due, faceOfClass());
        for (Field field : ButtonRegistry.class.getDeclaredFields()) {
            Check.same("private " + field.getName(), true, Modifier.isPrivate(field.getModifiers()));
        }
        Check.same("final", true, Modifier.isFinal(ButtonRegistry.class.getModifiers()));
        noNameTwice();
        Check.finish();
    }

    private static TreeSet<String> faceOfDocument() throws IOException {
        TreeSet<String> face = new TreeSet<>();
        boolean inside = false;
        for (String line : Files.readAllLines(Path.of("../shared/DOC.md"))) {
            if (line.startsWith("```") || line.startsWith("public final class")) {
                inside = line.startsWith("public final class");
            } else if (inside && line.startsWith("    public ")) {
                face.add(line.trim().replace(";", "").replace("NoSuchElement", "java.util.NoSuchElement")
                        .replaceAll("(int|char) [a-z]+([,)])", "$1$2"));
            }
        }
        return face;
    }

    private static TreeSet<String> faceOfClass() {
        TreeSet<String> face = new TreeSet<>();
        for (Constructor<?> one : ButtonRegistry.class.getDeclaredConstructors()) {
            if (!Modifier.isPrivate(one.getModifiers())) {
                face.add("public ButtonRegistry(" + names(one.getParameterTypes()) + ")"
                        + faults(one.getExceptionTypes()));
            }
        }
        for (Method one : ButtonRegistry.class.getDeclaredMethods()) {
            if (!Modifier.isPrivate(one.getModifiers())) {
                face.add(Modifier.toString(one.getModifiers()) + " " + one.getReturnType() + " " + one.getName() + "("
                        + names(one.getParameterTypes()) + ")" + faults(one.getExceptionTypes()));
            }
        }
        return face;
    }

    private static String names(Class<?>[] types) {
        List<String> names = new ArrayList<>();
        Arrays.stream(types).forEach(type -> names.add(type.getName().replace("java.lang.", "")));
        return String.join(", ", names);
    }

    private static String faults(Class<?>[] types) {
        return types.length == 0 ? "" : " throws " + names(types);
    }

    /** No method of the class or of a class inside it that is not of the face bears a name of the face. */
    private static void noNameTwice() {
        TreeSet<String> names = new TreeSet<>();
        for (Method one : ButtonRegistry.class.getDeclaredMethods()) {
            if (Modifier.isPublic(one.getModifiers())) {
                Check.same("one method " + one.getName(), true, names.add(one.getName()));
            }
        }
        List<Class<?>> classes = new ArrayList<>(Arrays.asList(ButtonRegistry.class.getDeclaredClasses()));
        classes.add(ButtonRegistry.class);
        Check.same("at most twelve classes", true, classes.size() <= 12);
        for (Class<?> type : classes) {
            Check.same("a class inside is static", true,
                    type == ButtonRegistry.class || Modifier.isStatic(type.getModifiers()));
            Check.same("at most twenty fields", true, Arrays.stream(type.getDeclaredFields())
                    .filter(field -> !Modifier.isStatic(field.getModifiers())).count() <= 20);
            for (Method one : type.getDeclaredMethods()) {
                boolean ofFace = type == ButtonRegistry.class && Modifier.isPublic(one.getModifiers());
                Check.same("the name " + one.getName(), true, ofFace || !names.contains(one.getName()));
                Check.same("parameters of " + one.getName(), true, one.getParameterCount() <= 7);
            }
        }
    }
}
