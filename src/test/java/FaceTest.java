import java.lang.reflect.Constructor;
import java.lang.reflect.Field;
import java.lang.reflect.Method;
import java.lang.reflect.Modifier;
import java.nio.file.Files;
import java.nio.file.Path;
import java.util.ArrayList;
import java.util.List;
import java.util.TreeSet;

/** The class has the face that the document shows, and no other member that can be seen from outside. */
public final class FaceTest {
    private static final Checks CHECKS = new Checks();

    public static void main(String[] args) throws Exception {
        CHECKS.due("class", "public final class Ringdays", Ringdays.class.toGenericString());
        TreeSet<String> due = faceOf(Path.of(args.length > 0 ? args[0] : "../shared/DOC.md"));
        CHECKS.due("how many members the document shows", 55, due.size());
        CHECKS.due("face", due, faceOfClass());
        CHECKS.due("fields that can be seen", List.of(), visibleFields());
        CHECKS.due("private methods with a public name", List.of(), doubledNames());
        CHECKS.end();
    }

    private static TreeSet<String> faceOf(Path document) throws Exception {
        TreeSet<String> face = new TreeSet<>();
        for (String line : Files.readAllLines(document)) {
            if (line.startsWith("    public ")) {
                face.add(line.strip().replace(";", "").replaceAll(" [a-z]\\w*(?=[,)])", ""));
            }
        }
        return face;
    }

    private static TreeSet<String> faceOfClass() {
        TreeSet<String> face = new TreeSet<>();
        for (Constructor<?> made : Ringdays.class.getDeclaredConstructors()) {
            face.add(made.toGenericString());
        }
        for (Method method : Ringdays.class.getDeclaredMethods()) {
            if (!Modifier.isPrivate(method.getModifiers())) {
                face.add(method.toGenericString());
            }
        }
        TreeSet<String> plain = new TreeSet<>();
        for (String member : face) {
            plain.add(member.replace("Ringdays.", "").replace("java.lang.", "").replaceAll(",(?=\\S)", ", "));
        }
        return plain;
    }

    private static List<String> visibleFields() {
        List<String> visible = new ArrayList<>();
        for (Field field : Ringdays.class.getDeclaredFields()) {
            if (!Modifier.isPrivate(field.getModifiers())) {
                visible.add(field.getName());
            }
        }
        return visible;
    }

    private static List<String> doubledNames() {
        TreeSet<String> open = new TreeSet<>();
        for (Method method : Ringdays.class.getMethods()) {
            open.add(method.getName());
        }
        List<String> doubled = new ArrayList<>();
        for (Method method : Ringdays.class.getDeclaredMethods()) {
            if (Modifier.isPrivate(method.getModifiers()) && open.contains(method.getName())) {
                doubled.add(method.getName());
            }
        }
        return doubled;
    }
}
