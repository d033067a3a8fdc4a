import java.io.IOException;
import java.lang.reflect.Constructor;
import java.lang.reflect.Field;
import java.lang.reflect.Member;
import java.lang.reflect.Method;
import java.lang.reflect.Modifier;
import java.nio.file.Files;
import java.nio.file.Path;
import java.util.Arrays;
import java.util.Set;
import java.util.TreeSet;
import java.util.regex.Matcher;
import java.util.regex.Pattern;

/** The public face is the document's and no more, and the source keeps the rules of LANGUAGE.md that a text tells. */
public final class FaceTest {
    private static final Set<String> FACE = Set.of(
            "int REFUSED", "int FULL", "long ABSENT", "long DIRECTORY", "long GONE", "long NONE",
            "int build[int, int, int, int]", "int flatten[int]", "int tag[int, int, int]", "int untag[int, int]",
            "int send[int, int]", "int collect[int]", "int named[int, int]", "boolean held[int, int]",
            "long look[int, int]", "int next[int, int]", "int layers[int]", "int entries[int, int]",
            "int entryPath[int, int, int]", "long entryMark[int, int, int]", "int common[int, int]",
            "int shared[int, int]", "int count[int]");

    private static final String[] FORBIDDEN = {
        "\\bthrows?\\b", "\\btry\\b", "\\bcatch\\b", "\\bsynchronized\\b", "\\bassert\\b", "->", "::", "\\bpackage\\b",
        "\\bstatic\\s*\\{", "\\b(equals|hashCode|toString)\\b", "Exact\\b", "\\bSystem\\.(?!arraycopy\\b)",
        "\\bArrays\\.(?!(copyOf|copyOfRange|fill)\\b)", "\\bjava\\.(?!util\\.)",
        "\\bimport\\s+(?!java\\.util\\.(ArrayList|Arrays|List|Iterator);)", "\\bprotected\\b"};

    private static int wrong = 0;

    public static void main(String[] args) throws IOException {
        members();
        privateNames();
        nestedClasses();
        sizes(ImageStores.class);
        source();
        System.out.println(wrong == 0 ? "the face is the document's" : wrong + " faults");
        if (wrong != 0) {
            System.exit(1);
        }
    }

    private static void fault(String text) {
        wrong++;
        System.out.println(text);
    }

    private static boolean isOpen(Member member) {
        return !Modifier.isPrivate(member.getModifiers()) && !member.isSynthetic();
    }

    private static void members() {
        Set<String> found = new TreeSet<>();
        for (Field field : ImageStores.class.getDeclaredFields()) {
            boolean constant = Modifier.isStatic(field.getModifiers());
            if (constant && !Modifier.isFinal(field.getModifiers())) {
                fault("a static field is not final: " + field.getName());
            }
            if (isOpen(field)) {
                found.add(field.getType() + " " + field.getName());
                if (!constant || !Modifier.isPublic(field.getModifiers())) {
                    fault("not a public constant: " + field.getName());
                }
            }
        }
        for (Method method : ImageStores.class.getDeclaredMethods()) {
            if (isOpen(method)) {
                found.add(method.getReturnType() + " " + method.getName() + Arrays.toString(method.getParameterTypes()));
                if (Modifier.isStatic(method.getModifiers()) || !Modifier.isPublic(method.getModifiers())) {
                    fault("not a public method of the object: " + method.getName());
                }
            }
        }
        if (!found.equals(FACE)) {
            fault("the face is " + found);
        }
        Constructor<?>[] constructors = ImageStores.class.getDeclaredConstructors();
        if (constructors.length != 1 || constructors[0].getParameterCount() != 0
                || !Modifier.isPublic(constructors[0].getModifiers())) {
            fault("the constructor is not the document's");
        }
        int modifiers = ImageStores.class.getModifiers();
        if (!Modifier.isPublic(modifiers) || !Modifier.isFinal(modifiers)) {
            fault("the class is not public and final");
        }
    }

    private static void privateNames() {
        for (Method method : ImageStores.class.getDeclaredMethods()) {
            boolean isPrivate = Modifier.isPrivate(method.getModifiers());
            if (isPrivate && FACE.stream().anyMatch(face -> face.contains(" " + method.getName() + "["))) {
                fault("a private method bears a public name: " + method.getName());
            }
        }
    }

    private static void nestedClasses() {
        Class<?>[] nested = ImageStores.class.getDeclaredClasses();
        if (nested.length > 11) {
            fault("too many classes: " + nested.length);
        }
        for (Class<?> inside : nested) {
            int modifiers = inside.getModifiers();
            if (!Modifier.isStatic(modifiers) || Modifier.isPublic(modifiers) || Modifier.isProtected(modifiers)) {
                fault("not a static class of its own: " + inside.getName());
            }
            sizes(inside);
            for (Field field : inside.getDeclaredFields()) {
                if (Modifier.isStatic(field.getModifiers()) && !Modifier.isFinal(field.getModifiers())) {
                    fault("a static field is not final: " + inside.getName() + "." + field.getName());
                }
            }
        }
    }

    private static void sizes(Class<?> owner) {
        int fields = 0;
        for (Field field : owner.getDeclaredFields()) {
            fields += Modifier.isStatic(field.getModifiers()) ? 0 : 1;
        }
        if (fields > 20) {
            fault("too many fields: " + owner.getName());
        }
        for (Method method : owner.getDeclaredMethods()) {
            if (method.getParameterCount() > 7) {
                fault("too many parameters: " + owner.getName() + "." + method.getName());
            }
        }
    }

    private static void source() throws IOException {
        String text = Files.readString(Path.of("src/main/java/ImageStores.java"));
        String code = text.replaceAll("(?s)/\\*.*?\\*/", " ").replaceAll("//[^\n]*", " ");
        for (String pattern : FORBIDDEN) {
            Matcher matcher = Pattern.compile(pattern).matcher(code);
            if (matcher.find()) {
                fault("LANGUAGE.md rules out: " + matcher.group());
            }
        }
    }
}
