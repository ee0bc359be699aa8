import java.io.IOException;
import java.lang.reflect.Constructor;
import java.lang.reflect.Field;
import java.lang.reflect.Method;
import java.lang.reflect.Modifier;
import java.nio.file.Files;
import java.nio.file.Path;
import java.util.ArrayList;
import java.util.List;
import java.util.Set;
import java.util.TreeSet;

/** The public face, as DOC.md prints it, and what LANGUAGE.md says of the rest of the class. */
public final class FaceTest {
    public static void main(String[] args) throws IOException {
        Set<String> due = documentedFace();
        Set<String> got = new TreeSet<>();
        Set<String> names = new TreeSet<>();
        for (Constructor<?> constructor : SledgePost.class.getDeclaredConstructors()) {
            got.add(signature("public SledgePost", constructor.getParameterTypes(), constructor.getExceptionTypes()));
        }
        for (Method method : SledgePost.class.getDeclaredMethods()) {
            int modifiers = method.getModifiers();
            if (Modifier.isPublic(modifiers)) {
                names.add(method.getName());
                String start = "public " + method.getReturnType().getName() + " " + method.getName();
                got.add(signature(start, method.getParameterTypes(), method.getExceptionTypes()));
            } else {
                Due.is("private: " + method, true, Modifier.isPrivate(modifiers));
            }
        }
        Due.is("the face", due, got);
        Due.is("the class", Modifier.PUBLIC | Modifier.FINAL, SledgePost.class.getModifiers());
        for (Field field : SledgePost.class.getDeclaredFields()) {
            Due.is("private: " + field, true, Modifier.isPrivate(field.getModifiers()));
        }
        insideClasses(names);
        Due.end();
    }

    private static Set<String> documentedFace() throws IOException {
        Set<String> face = new TreeSet<>();
        for (String line : Files.readAllLines(Path.of("../shared/DOC.md"))) {
            if (line.startsWith("    public ")) {
                face.add(line.trim().replaceAll("(int|char) [a-z]+(?=[,)])", "$1").replace(";", ""));
            }
        }
        Due.is("the document's face was found", true, face.size() > 50);
        return face;
    }

    private static String signature(String start, Class<?>[] parameters, Class<?>[] exceptions) {
        List<String> types = new ArrayList<>();
        for (Class<?> type : parameters) {
            types.add(type.getName());
        }
        List<String> thrown = new ArrayList<>();
        for (Class<?> type : exceptions) {
            thrown.add(type.getSimpleName());
        }
        String throwing = thrown.isEmpty() ? "" : " throws " + String.join(", ", thrown);
        return start + "(" + String.join(", ", types) + ")" + throwing;
    }

    private static void insideClasses(Set<String> names) {
        for (Class<?> inside : SledgePost.class.getDeclaredClasses()) {
            Due.is("not public: " + inside, false, Modifier.isPublic(inside.getModifiers()));
            Due.is("static: " + inside, true, Modifier.isStatic(inside.getModifiers()));
            for (Method method : inside.getDeclaredMethods()) {
                Due.is("own name: " + method, false, names.contains(method.getName()));
            }
        }
    }
}
