import java.io.IOException;
import java.lang.reflect.Constructor;
import java.lang.reflect.Field;
import java.lang.reflect.Method;
import java.lang.reflect.Modifier;
import java.nio.file.Files;
import java.nio.file.Path;
import java.util.Set;
import java.util.TreeSet;
import java.util.regex.Pattern;

/** The public face of the class, and those rules of LANGUAGE.md that can be seen from outside. */
public final class FaceTest {
    private static final Set<String> FACE = Set.of(
        "public static final int NONE = -1",
        "public static final int TOO_BIG = -2",
        "public static final int NOT_SOUND = -3",
        "public static final int NOT_FITTING = -4",
        "public static final int FULL = -5",
        "public PropertyDocuments()",
        "public int PropertyDocuments.define(int)",
        "public boolean PropertyDocuments.property(int,int,int,int)",
        "public int PropertyDocuments.make(int)",
        "public boolean PropertyDocuments.put(int,int,long)",
        "public boolean PropertyDocuments.link(int,int,int)",
        "public long PropertyDocuments.value(int,int)",
        "public int PropertyDocuments.linked(int,int)",
        "public int PropertyDocuments.classOf(int)",
        "public int PropertyDocuments.objects()",
        "public void PropertyDocuments.drop()",
        "public int PropertyDocuments.encode(int,int)",
        "public int PropertyDocuments.decode(int)",
        "public boolean PropertyDocuments.sound()",
        "public int PropertyDocuments.depth()",
        "public int PropertyDocuments.elements()",
        "public int PropertyDocuments.size()",
        "public int PropertyDocuments.byteAt(int)",
        "public boolean PropertyDocuments.poke(int,int)",
        "public boolean PropertyDocuments.cut(int)");

    private static final Path PROGRAM = Path.of("src/main/java/PropertyDocuments.java");
    private static final String FORBIDDEN =
        "\\b(import|package|throw|throws|try|catch|synchronized|assert|native|volatile|transient)\\b|->|::";

    private static int wrong = 0;

    public static void main(String[] args) throws Exception {
        checkFace();
        checkNames();
        checkClasses();
        checkWords();
        System.out.println(wrong == 0 ? "the face is as due" : wrong + " faults of the face");
        if (wrong != 0) {
            System.exit(1);
        }
    }

    private static void fault(String text) {
        wrong++;
        System.out.println(text);
    }

    private static void checkFace() throws IllegalAccessException {
        Class<?> program = PropertyDocuments.class;
        Set<String> found = new TreeSet<>();
        for (Field field : program.getDeclaredFields()) {
            if (!Modifier.isPrivate(field.getModifiers())) {
                found.add(Modifier.toString(field.getModifiers()) + " " + field.getType() + " " + field.getName()
                    + " = " + field.getInt(null));
            }
        }
        for (Constructor<?> constructor : program.getDeclaredConstructors()) {
            found.add(constructor.toString());
        }
        for (Method method : program.getDeclaredMethods()) {
            if (!Modifier.isPrivate(method.getModifiers())) {
                found.add(method.toString());
            }
        }
        if (!found.equals(new TreeSet<>(FACE))) {
            fault("rule 1: the face is " + found);
        }
        if (program.getModifiers() != (Modifier.PUBLIC | Modifier.FINAL)) {
            fault("rule 1: the class is not public and final");
        }
    }

    private static void checkNames() {
        Set<String> faceNames = new TreeSet<>();
        for (Method method : PropertyDocuments.class.getMethods()) {
            faceNames.add(method.getName());
        }
        for (Method method : PropertyDocuments.class.getDeclaredMethods()) {
            dueOtherName(faceNames, method);
        }
        for (Class<?> inside : PropertyDocuments.class.getDeclaredClasses()) {
            for (Method method : inside.getDeclaredMethods()) {
                dueOtherName(faceNames, method);
            }
        }
    }

    private static void dueOtherName(Set<String> faceNames, Method method) {
        if (Modifier.isPrivate(method.getModifiers()) && faceNames.contains(method.getName())) {
            fault("rule 1: a private method bears the name of a public one: " + method);
        }
    }

    private static void checkClasses() {
        Class<?>[] insides = PropertyDocuments.class.getDeclaredClasses();
        if (insides.length > 12) {
            fault("rule 11: too many classes");
        }
        for (Class<?> inside : insides) {
            if (!Modifier.isStatic(inside.getModifiers())) {
                fault("rule 2: not static: " + inside);
            }
            for (Method method : inside.getDeclaredMethods()) {
                if (method.getParameterCount() > 7) {
                    fault("rule 11: too many parameters: " + method);
                }
            }
            for (Field field : inside.getDeclaredFields()) {
                dueFinal(field);
            }
        }
        for (Field field : PropertyDocuments.class.getDeclaredFields()) {
            dueFinal(field);
        }
    }

    private static void dueFinal(Field field) {
        if (Modifier.isStatic(field.getModifiers()) && !Modifier.isFinal(field.getModifiers())) {
            fault("rule 5: static state: " + field);
        }
    }

    private static void checkWords() throws IOException {
        Pattern forbidden = Pattern.compile(FORBIDDEN);
        for (String line : Files.readAllLines(PROGRAM)) {
            String code = line.trim();
            boolean isComment = code.startsWith("/**") || code.startsWith("//");
            if (!isComment && forbidden.matcher(code).find()) {
                fault("rule 4 or 6: " + code);
            }
        }
    }
}
