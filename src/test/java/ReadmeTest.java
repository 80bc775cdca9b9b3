import java.io.IOException;
import java.lang.reflect.Field;
import java.lang.reflect.Method;
import java.lang.reflect.Modifier;
import java.nio.file.Files;
import java.nio.file.Path;
import java.util.ArrayList;
import java.util.List;

/** What README.md says of the use of the class. */
public final class ReadmeTest {
    private static final Path README = Path.of("README.md");
    private static final Path THIS = Path.of("src/test/java/ReadmeTest.java");
    private static final String BEGIN = "// The example begins.";
    private static final String END = "// The example ends.";

    public static void main(String[] args) throws IOException {
        List<String> readme = between(README, "```java", "```");
        List<String> here = between(THIS, BEGIN, END);
        Due.test("the example's answers", ReadmeTest::example);
        Due.test("the example is the one that is run here", () -> dueSame(readme, here));
        String text = Files.readString(README);
        Due.test("each call is named", () -> dueCalls(text));
        Due.test("each answer is named", () -> dueConstants(text));
        Due.end();
    }

    private static void example() {
        // The example begins.
        PropertyDocuments x = new PropertyDocuments();
        int animal = x.define(PropertyDocuments.NONE);   // a class without a parent
        int dog = x.define(animal);                      // a child of it
        x.property(animal, 0, 0, 0);                     // letter 0, an INT
        x.property(animal, 1, 3, animal);                // letter 1, a LINK to an animal

        int first = x.make(animal);
        int second = x.make(dog);
        x.put(second, 0, 7);
        x.link(first, 1, second);

        int length = x.encode(first, animal);            // 40: the buffer holds the document of the first
        int copy = x.decode(animal);                     // 2: two more objects, made from the document
        int kind = x.classOf(x.linked(copy, 1));         // dog
        long value = x.value(x.linked(copy, 1), 0);      // 7
        // The example ends.
        Due.equal("length", length, 40);
        Due.equal("copy", copy, 2);
        Due.equal("objects", x.objects(), 4);
        Due.equal("kind", kind, dog);
        Due.equal("value", value, 7);
    }

    private static List<String> between(Path file, String begin, String end) throws IOException {
        List<String> found = new ArrayList<>();
        boolean inside = false;
        for (String line : Files.readAllLines(file)) {
            String words = line.strip();
            if (words.equals(end)) {
                inside = false;
            }
            if (inside) {
                found.add(words);
            }
            if (words.equals(begin)) {
                inside = true;
            }
        }
        return found;
    }

    private static void dueSame(List<String> readme, List<String> here) {
        if (readme.isEmpty() || !readme.equals(here)) {
            Due.fault("README.md has " + readme + ", run was " + here);
        }
    }

    private static void dueCalls(String readme) {
        for (Method method : PropertyDocuments.class.getDeclaredMethods()) {
            if (Modifier.isPublic(method.getModifiers()) && !readme.contains("`" + method.getName() + "(")) {
                Due.fault("README.md does not name " + method.getName());
            }
        }
    }

    private static void dueConstants(String readme) {
        for (Field field : PropertyDocuments.class.getFields()) {
            if (!readme.contains("`" + field.getName() + "`")) {
                Due.fault("README.md does not name " + field.getName());
            }
        }
    }
}
