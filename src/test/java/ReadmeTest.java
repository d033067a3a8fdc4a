import java.io.IOException;
import java.lang.reflect.Method;
import java.lang.reflect.Modifier;
import java.nio.file.Files;
import java.nio.file.Path;
import java.util.ArrayList;
import java.util.List;

/** Each line of README.md's example answers what its comment says, and README.md names every call of the face. */
public final class ReadmeTest extends Checks {
    private static final List<String> LINES = new ArrayList<>();

    public static void main(String[] args) throws IOException {
        String readme = Files.readString(Path.of("README.md"));
        example();
        due("the example", exampleOf(readme), String.join("\n", LINES));
        everyCall(readme);
        finish("README.md");
    }

    private static void everyCall(String readme) {
        for (Method method : ImageStores.class.getDeclaredMethods()) {
            if (Modifier.isPublic(method.getModifiers())) {
                due("README.md names " + method.getName(), readme.contains("| `" + method.getName() + "("), true);
            }
        }
    }

    private static void example() {
        ImageStores x = new ImageStores();
        LINES.add("ImageStores x = new ImageStores(); ");
        int image = x.build(0, 0, 31, 7);
        line("int image = x.build(0, 0, 31, 7); 1", image, 1);
        line("x.look(image, 25); ImageStores.DIRECTORY", x.look(image, 25), DIRECTORY);
        line("x.entries(image, 0); 3", x.entries(image, 0), 3);
        line("x.tag(0, 2, image); 40", x.tag(0, 2, image), 40);
        line("x.send(0, 2); 1", x.send(0, 2), 1);
        line("x.untag(0, 2); 1", x.untag(0, 2), 1);
        line("x.collect(0); 1", x.collect(0), 1);
        line("x.held(0, image); false", x.held(0, image) ? 1 : 0, 0);
        line("x.held(1, image); true", x.held(1, image) ? 1 : 0, 1);
        line("x.build(image, 2, 30, 0); ImageStores.REFUSED", x.build(image, 2, 30, 0), REFUSED);
        line("x.send(1, 2); 1", x.send(1, 2), 1);
        line("x.build(image, 2, 30, 0); 2", x.build(image, 2, 30, 0), 2);
    }

    private static void line(String callAndAnswer, long got, long want) {
        LINES.add(callAndAnswer);
        due(callAndAnswer, got, want);
    }

    /** The lines of the first block of Java, each as its call and the answer with which its comment begins. */
    private static String exampleOf(String readme) {
        String[] parts = readme.split("```");
        String block = parts.length < 2 ? "" : parts[1];
        List<String> lines = new ArrayList<>();
        for (String line : block.split("\n")) {
            if (line.contains(";")) {
                String answer = line.contains("// ") ? line.split("// ")[1].split(":")[0] : "";
                lines.add(line.substring(0, line.indexOf(';') + 1) + " " + answer);
            }
        }
        return String.join("\n", lines);
    }
}
