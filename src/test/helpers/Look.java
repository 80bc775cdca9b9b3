import java.util.ArrayList;
import java.util.List;
import java.util.function.Function;

/**
 * One look at what an object holds. Each look spends its object: some change it, and one object has only 512 calls, so
 * the whole is seen by many looks at objects that were brought to the same state.
 */
record Look(Part part, String name, Function<PropertyDocuments, long[]> view) {
    enum Part { BYTES, OBJECTS, DESCRIPTION }

    static final List<Look> ALL = all();

    private static final int NONE = PropertyDocuments.NONE;
    private static final int CLASSES = 6;
    private static final int LETTERS = 26;
    private static final int OBJECTS = 12;
    private static final int BYTES = 120;

    private static List<Look> all() {
        List<Look> looks = new ArrayList<>();
        looks.add(new Look(Part.BYTES, "the bytes", Look::bytes));
        looks.add(new Look(Part.OBJECTS, "the classes of the objects", Look::objects));
        for (int half = 0; half < 2; half++) {
            int first = half * OBJECTS / 2;
            looks.add(new Look(Part.OBJECTS, "the values from object " + first, x -> values(x, first)));
            looks.add(new Look(Part.OBJECTS, "the links from object " + first, x -> links(x, first)));
        }
        looks.add(new Look(Part.DESCRIPTION, "the kinds of the classes", Look::kinds));
        for (long value : new long[] {1, 2, 1L << 40}) {
            looks.add(new Look(Part.DESCRIPTION, "the properties that take " + value, x -> taking(x, value)));
        }
        for (int other = NONE; other < CLASSES; other++) {
            int target = other;
            looks.add(new Look(Part.DESCRIPTION, "the links that take " + target, x -> linking(x, target)));
        }
        for (int cls = 0; cls < CLASSES; cls++) {
            int kind = cls;
            looks.add(new Look(Part.DESCRIPTION, "what is written of class " + kind, x -> written(x, kind)));
        }
        looks.add(new Look(Part.DESCRIPTION, "the classes still free", Look::freeClasses));
        looks.add(new Look(Part.DESCRIPTION, "the properties still free", Look::freeProperties));
        return looks;
    }

    private static long[] bytes(PropertyDocuments x) {
        long[] seen = new long[BYTES + 5];
        for (int place = 0; place <= BYTES; place++) {
            seen[place] = x.byteAt(place);
        }
        seen[BYTES + 1] = x.size();
        seen[BYTES + 2] = x.sound() ? 1 : 0;
        seen[BYTES + 3] = x.depth();
        seen[BYTES + 4] = x.elements();
        return seen;
    }

    private static long[] objects(PropertyDocuments x) {
        long[] seen = new long[OBJECTS + 2];
        for (int object = 0; object <= OBJECTS; object++) {
            seen[object] = x.classOf(object);
        }
        seen[OBJECTS + 1] = x.objects();
        return seen;
    }

    private static long[] values(PropertyDocuments x, int first) {
        long[] seen = new long[OBJECTS / 2 * LETTERS];
        for (int i = 0; i < seen.length; i++) {
            seen[i] = x.value(first + i / LETTERS, i % LETTERS);
        }
        return seen;
    }

    private static long[] links(PropertyDocuments x, int first) {
        long[] seen = new long[OBJECTS / 2 * LETTERS];
        for (int i = 0; i < seen.length; i++) {
            seen[i] = x.linked(first + i / LETTERS, i % LETTERS);
        }
        return seen;
    }

    /** Object 0 is then of class 0, object 1 of class 1, and so on. */
    private static void makeOneOfEach(PropertyDocuments x) {
        x.drop();
        for (int cls = 0; cls < CLASSES; cls++) {
            x.make(cls);
        }
    }

    private static long[] kinds(PropertyDocuments x) {
        makeOneOfEach(x);
        long[] seen = new long[CLASSES * CLASSES + 1];
        for (int i = 0; i < CLASSES * CLASSES; i++) {
            seen[i] = x.encode(i / CLASSES, i % CLASSES);
        }
        seen[CLASSES * CLASSES] = x.objects();
        return seen;
    }

    private static long[] taking(PropertyDocuments x, long value) {
        makeOneOfEach(x);
        long[] seen = new long[CLASSES * LETTERS];
        for (int i = 0; i < seen.length; i++) {
            seen[i] = x.put(i / LETTERS, i % LETTERS, value) ? 1 : 0;
        }
        return seen;
    }

    private static long[] linking(PropertyDocuments x, int other) {
        makeOneOfEach(x);
        long[] seen = new long[CLASSES * LETTERS];
        for (int i = 0; i < seen.length; i++) {
            seen[i] = x.link(i / LETTERS, i % LETTERS, other) ? 1 : 0;
        }
        return seen;
    }

    private static long[] written(PropertyDocuments x, int cls) {
        x.drop();
        x.cut(0);
        x.make(cls);
        x.encode(0, cls);
        return bytes(x);
    }

    private static long[] freeClasses(PropertyDocuments x) {
        x.drop();
        long[] seen = new long[CLASSES + 1];
        for (int i = 0; i < seen.length; i++) {
            seen[i] = x.define(NONE);
        }
        return seen;
    }

    private static long[] freeProperties(PropertyDocuments x) {
        x.drop();
        long[] seen = new long[CLASSES * LETTERS];
        for (int i = 0; i < seen.length; i++) {
            // Letter by letter: the eight that are taken must not all go to the first class.
            seen[i] = x.property(i % CLASSES, i / CLASSES, 2, 0) ? 1 : 0;
        }
        return seen;
    }
}
