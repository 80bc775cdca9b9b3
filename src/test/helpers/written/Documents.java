package written;

import java.util.Arrays;

/** Documents and elements as bytes, put together by hand from the words of the document. */
public final class Documents {
    private Documents() {
    }

    public static int[] b(int... bytes) {
        return bytes;
    }

    public static int[] join(int[]... parts) {
        return Arrays.stream(parts).flatMapToInt(Arrays::stream).toArray();
    }

    public static int[] times(int count, int... part) {
        int[][] parts = new int[count][];
        Arrays.fill(parts, part);
        return join(parts);
    }

    public static int[] int32(int value) {
        return b(value & 255, value >> 8 & 255, value >> 16 & 255, value >> 24 & 255);
    }

    public static int[] int64(long value) {
        return join(int32((int) value), int32((int) (value >> 32)));
    }

    public static int[] doc(int[]... elements) {
        int[] body = join(elements);
        return join(int32(body.length + 5), body, b(0));
    }

    public static int[] text(int... bytes) {
        return join(int32(bytes.length + 1), bytes, b(0));
    }

    public static int[] mark(int cls) {
        return markSaying(65 + cls);
    }

    public static int[] markSaying(int... bytes) {
        return join(b(2, 95, 116, 0), text(bytes));
    }

    public static int[] anInt(int letter, int value) {
        return join(b(16, 97 + letter, 0), int32(value));
    }

    public static int[] aLong(int letter, long value) {
        return join(b(18, 97 + letter, 0), int64(value));
    }

    public static int[] flag(int letter, int value) {
        return b(8, 97 + letter, 0, value);
    }

    public static int[] nothing(int letter) {
        return b(10, 97 + letter, 0);
    }

    public static int[] inner(int letter, int[] document) {
        return join(b(3, 97 + letter, 0), document);
    }

    /** A document of which the deepest inside has that depth, each the content of an element of letter 0. */
    public static int[] nested(int depth) {
        return depth == 1 ? doc() : doc(inner(0, nested(depth - 1)));
    }
}
