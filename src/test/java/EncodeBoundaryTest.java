import static written.Documents.aLong;
import static written.Documents.anInt;
import static written.Documents.doc;
import static written.Documents.flag;
import static written.Documents.inner;
import static written.Documents.mark;
import static written.Documents.nothing;
import static written.Documents.times;

import java.util.TreeSet;

/** The boundary cases of promise 12 and of the term "the document of an object". */
public final class EncodeBoundaryTest {
    private static final int NONE = PropertyDocuments.NONE;
    private static final int TOO_BIG = PropertyDocuments.TOO_BIG;
    private static final int INT = 0;
    private static final int LONG = 1;
    private static final int FLAG = 2;
    private static final int LINK = 3;
    private static final int LEAST = Integer.MIN_VALUE;
    private static final int MOST = Integer.MAX_VALUE;
    private static final int[] LENGTHS = {7, 11, 4};

    public static void main(String[] args) {
        Due.test("12: NONE when there is no such object", EncodeBoundaryTest::noObject);
        Due.test("12: NONE when cls is no class", EncodeBoundaryTest::noClass);
        Due.test("12: NONE when the object's class is no kind of cls", EncodeBoundaryTest::noKind);
        Due.test("12: otherwise TOO_BIG", EncodeBoundaryTest::noneBeforeTooBig);
        Due.test("12: more than 120 bytes", EncodeBoundaryTest::moreThan120);
        Due.test("12: a depth above 5", EncodeBoundaryTest::deeperThan5);
        Due.test("12: as when links lead back to the object", EncodeBoundaryTest::rings);
        Due.test("12: The bytes of the buffer become the document", EncodeBoundaryTest::bufferBecomes);
        Due.test("a document of no elements", EncodeBoundaryTest::noElements);
        Due.test("if the object's class is not D", EncodeBoundaryTest::marks);
        Due.test("65 + the number of the object's class", EncodeBoundaryTest::markBytes);
        Due.test("97 + the letter", EncodeBoundaryTest::letterBytes);
        Due.test("for each property of its class, in their order", EncodeBoundaryTest::order);
        Due.test("INT32: four bytes, the lowest first, in two's complement", EncodeBoundaryTest::int32s);
        Due.test("INT64: eight bytes, the lowest first, in two's complement", EncodeBoundaryTest::int64s);
        Due.test("FLAG: type 8 and the value", EncodeBoundaryTest::flags);
        Due.test("LINK: type 10 for NONE, otherwise type 3", EncodeBoundaryTest::links);
        Due.test("the document of the linked object for the target", EncodeBoundaryTest::linkedDocuments);
        Due.end();
    }

    /** Class 1 is a child of 0 and 2 of 1; 3 stands alone. INT 0 and LINK 3 to class 1 are in class 0. */
    private static Scene described() {
        return Scene.fresh().then(x -> {
            x.define(NONE);
            x.define(0);
            x.define(1);
            x.define(NONE);
            x.property(0, 0, INT, 0);
            x.property(0, 3, LINK, 1);
        });
    }

    /** Object 0 of class 0, 1 of class 1, and so on, and some bytes that are to stay. */
    private static Scene oneOfEach() {
        return described().then(x -> {
            for (int cls = 0; cls < 4; cls++) {
                x.make(cls);
                x.put(cls, 0, 40 + cls);
            }
        }).withBytes(7, 8, 9);
    }

    /** One class that has LINK 0 and LINK 1 to itself, and so many objects. */
    private static Scene linking(int count) {
        return Scene.fresh().then(x -> {
            x.define(NONE);
            x.property(0, 0, LINK, 0);
            x.property(0, 1, LINK, 0);
            for (int i = 0; i < count; i++) {
                x.make(0);
            }
        }).withBytes(7, 8, 9);
    }

    /** So many objects, each linked by that letter to the next. */
    private static Scene chain(int count, int letter) {
        return linking(count).then(x -> {
            for (int i = 0; i + 1 < count; i++) {
                x.link(i, letter, i + 1);
            }
        });
    }

    private static void noObject() {
        described().refuses("the first before it is made", x -> x.encode(0, 0), NONE);
        for (int count = 1; count <= 12; count++) {
            int last = count - 1;
            linking(count).answers("the first", x -> x.encode(0, 0), 11);
            linking(count).answers("the last", x -> x.encode(last, 0), 11);
            linking(count).refuses("before the first", x -> x.encode(-1, 0), NONE);
            linking(count).refuses("behind the last", x -> x.encode(last + 1, 0), NONE);
        }
        linking(12).refuses("the least", x -> x.encode(LEAST, 0), NONE);
        linking(12).refuses("the most", x -> x.encode(MOST, 0), NONE);
        linking(12).refuses("neither object nor class", x -> x.encode(-1, -1), NONE);
        linking(12).then(x -> x.drop()).refuses("a dropped one", x -> x.encode(0, 0), NONE);
    }

    private static void noClass() {
        for (int count = 1; count <= 6; count++) {
            int last = count - 1;
            Scene line = Scene.fresh();
            for (int i = 0; i < count; i++) {
                int parent = i - 1;
                line = line.then(x -> x.define(parent));
            }
            line = line.then(x -> x.make(last)).withBytes(7, 8, 9);
            line.answers("the first", x -> x.encode(0, 0), last == 0 ? 5 : 15);
            line.answers("the last", x -> x.encode(0, last), 5);
            line.refuses("NONE", x -> x.encode(0, NONE), NONE);
            line.refuses("behind the last", x -> x.encode(0, last + 1), NONE);
            line.refuses("the least", x -> x.encode(0, LEAST), NONE);
            line.refuses("the most", x -> x.encode(0, MOST), NONE);
        }
    }

    private static void noKind() {
        Scene each = oneOfEach();
        each.answers("the class itself", x -> x.encode(1, 1), 15);
        each.answers("its parent", x -> x.encode(1, 0), 25);
        each.refuses("its child", x -> x.encode(1, 2), NONE);
        each.refuses("its grandchild", x -> x.encode(0, 2), NONE);
        each.refuses("a stranger", x -> x.encode(1, 3), NONE);
        each.refuses("a stranger, the other way", x -> x.encode(3, 0), NONE);
    }

    private static void noneBeforeTooBig() {
        Scene ring = oneOfEach().then(x -> x.link(1, 3, 1));
        ring.refuses("a ring for its class", x -> x.encode(1, 1), TOO_BIG);
        ring.refuses("a ring for the child", x -> x.encode(1, 2), NONE);
        ring.refuses("a ring for a stranger", x -> x.encode(1, 3), NONE);
        ring.refuses("a ring for no class", x -> x.encode(1, 4), NONE);
        Scene big = sized(3, 1, 2, 2, 0);
        big.refuses("121 bytes for its class", x -> x.encode(0, 0), TOO_BIG);
        big.refuses("121 bytes for the child", x -> x.encode(0, 1), NONE);
        big.refuses("121 bytes for no class", x -> x.encode(0, 2), NONE);
    }

    /** A chain of objects, each with so many INT, LONG and FLAG; the last is of the child when lastClass is 1. */
    private static Scene sized(int count, int lastClass, int ints, int longs, int flags) {
        int[] numbers = {ints, longs, flags};
        return Scene.fresh().then(x -> {
            x.define(NONE);
            x.define(0);
            int letter = 0;
            for (int sort = INT; sort <= FLAG; sort++) {
                for (int i = 0; i < numbers[sort]; i++) {
                    x.property(0, letter, sort, 0);
                    letter++;
                }
            }
            x.property(0, 25, LINK, 0);
            for (int i = 0; i < count; i++) {
                x.make(i == count - 1 ? lastClass : 0);
                x.link(i - 1, 25, i);
            }
        }).withBytes(7, 8, 9);
    }

    private static void moreThan120() {
        TreeSet<Integer> lengths = new TreeSet<>();
        for (int i = 0; i < 8 * 8 * 8; i++) {
            int ints = i / 64;
            int longs = i / 8 % 8;
            int flags = i % 8;
            for (int count = 1; count <= 5 && ints + longs + flags <= 7; count++) {
                int inEach = 8 + ints * LENGTHS[INT] + longs * LENGTHS[LONG] + flags * LENGTHS[FLAG];
                lengths.add(count * inEach);
                lengths.add(count * inEach + 10);
                dueLength(sized(count, 0, ints, longs, flags), count * inEach);
                dueLength(sized(count, 1, ints, longs, flags), count * inEach + 10);
            }
        }
        for (int length : new int[] {120, 121}) {
            Due.equal("a document of " + length + " bytes was tried", lengths.contains(length) ? 1 : 0, 1);
        }
    }

    private static void dueLength(Scene scene, int length) {
        if (length > 120) {
            scene.refuses(length + " bytes", x -> x.encode(0, 0), TOO_BIG);
        } else {
            scene.answers(length + " bytes", x -> x.encode(0, 0), length);
            Scene encoded = scene.then(x -> x.encode(0, 0));
            encoded.answers("size", x -> x.size(), length);
            encoded.answers("the number in front", x -> x.byteAt(0), length);
            encoded.answers("sound", x -> x.sound() ? 1 : 0, 1);
        }
    }

    private static void deeperThan5() {
        for (int letter = 0; letter < 2; letter++) {
            int l = letter;
            for (int count = 1; count <= 5; count++) {
                int depth = count;
                chain(count, l).answers("depth " + depth, x -> x.encode(0, 0), 11 * depth);
                chain(count, l).then(x -> x.encode(0, 0)).answers("depth", x -> x.depth(), depth);
            }
            chain(6, l).refuses("depth 6", x -> x.encode(0, 0), TOO_BIG);
            chain(12, l).refuses("depth 12", x -> x.encode(0, 0), TOO_BIG);
            chain(12, l).answers("from the eighth on", x -> x.encode(7, 0), 55);
            chain(12, l).refuses("from the seventh on", x -> x.encode(6, 0), TOO_BIG);
        }
        Scene wide = chain(5, 0).then(x -> x.link(0, 1, 3));
        wide.answers("depth 5 and a second way", x -> x.encode(0, 0), 77);
        Scene deep = chain(6, 1).then(x -> x.link(0, 0, 5));
        deep.refuses("depth 6 behind depth 2", x -> x.encode(0, 0), TOO_BIG);
        chain(6, 0).then(x -> x.encode(0, 0)).answers("the next one", x -> x.encode(1, 0), 55);
    }

    private static void rings() {
        linking(1).then(x -> x.link(0, 0, 0)).refuses("itself", x -> x.encode(0, 0), TOO_BIG);
        Scene twice = linking(1).then(x -> x.link(0, 0, 0)).then(x -> x.link(0, 1, 0));
        twice.refuses("itself twice", x -> x.encode(0, 0), TOO_BIG);
        for (int count = 2; count <= 12; count++) {
            int last = count - 1;
            Scene ring = chain(count, 0).then(x -> x.link(last, 0, 0));
            ring.refuses("a ring of " + count, x -> x.encode(0, 0), TOO_BIG);
            ring.refuses("a ring of " + count + " from the last", x -> x.encode(last, 0), TOO_BIG);
        }
        Scene outside = chain(3, 0).then(x -> x.link(2, 1, 1));
        outside.refuses("from outside the ring", x -> x.encode(0, 0), TOO_BIG);
        outside.then(x -> x.link(2, 1, NONE)).answers("without the ring", x -> x.encode(0, 0), 33);
    }

    private static void bufferBecomes() {
        Scene full = oneOfEach().withBytes(times(120, 255));
        full.answers("over 120 bytes", x -> x.encode(0, 0), 15);
        full.then(x -> x.encode(0, 0)).dueBytes("over 120 bytes", doc(anInt(0, 40), nothing(3)));
        Scene none = oneOfEach().withBytes();
        none.then(x -> x.encode(0, 0)).dueBytes("over no bytes", doc(anInt(0, 40), nothing(3)));
        full.keeps("encode", x -> x.encode(0, 0), Look.Part.OBJECTS, Look.Part.DESCRIPTION);
        full.then(x -> x.encode(3, 3)).dueBytes("5 bytes over 120", 5, 0, 0, 0, 0);
        full.then(x -> x.encode(3, 3)).answers("nothing behind them", x -> x.byteAt(5), NONE);
    }

    private static void noElements() {
        oneOfEach().answers("no properties", x -> x.encode(3, 3), 5);
        oneOfEach().then(x -> x.encode(3, 3)).answers("elements", x -> x.elements(), 0);
        oneOfEach().then(x -> x.encode(3, 3)).answers("sound", x -> x.sound() ? 1 : 0, 1);
    }

    private static void marks() {
        int[] elements = {16, 97, 0, 42, 0, 0, 0, 10, 100, 0};
        Scene each = oneOfEach();
        each.then(x -> x.encode(2, 2)).dueBytes("its own class", doc(elements));
        each.then(x -> x.encode(2, 1)).dueBytes("its parent", doc(mark(2), elements));
        each.then(x -> x.encode(2, 0)).dueBytes("its grandparent", doc(mark(2), elements));
    }

    private static void markBytes() {
        for (int cls = 1; cls < 6; cls++) {
            int c = cls;
            Scene child = Scene.fresh().then(x -> {
                for (int i = 0; i < 6; i++) {
                    x.define(i == 0 ? NONE : 0);
                }
                x.make(c);
            });
            child.then(x -> x.encode(0, 0)).dueBytes("class " + c,
                15, 0, 0, 0, 2, 95, 116, 0, 2, 0, 0, 0, 65 + c, 0, 0);
        }
    }

    private static Scene single(int letter, int sort) {
        return Scene.fresh().then(x -> {
            x.define(NONE);
            x.property(0, letter, sort, 0);
            x.make(0);
        });
    }

    private static void letterBytes() {
        for (int letter = 0; letter < 26; letter++) {
            int l = letter;
            single(l, LINK).then(x -> x.encode(0, 0)).dueBytes("letter " + l, 8, 0, 0, 0, 10, 97 + l, 0, 0);
        }
    }

    private static void order() {
        Scene given = Scene.fresh().then(x -> {
            for (int cls = 0; cls < 6; cls++) {
                x.define(cls - 1);
            }
            x.property(0, 20, FLAG, 0);
            for (int cls = 5; cls >= 0; cls--) {
                x.property(cls, cls, FLAG, 0);
            }
            x.property(5, 25, FLAG, 0);
            x.make(5);
            x.make(0);
        });
        given.then(x -> x.encode(0, 5)).dueBytes("the farthest first", doc(flag(20, 0), flag(0, 0), flag(1, 0),
            flag(2, 0), flag(3, 0), flag(4, 0), flag(5, 0), flag(25, 0)));
        given.then(x -> x.encode(1, 0)).dueBytes("its own alone", doc(flag(20, 0), flag(0, 0)));
    }

    private static void int32s() {
        int[] values = {LEAST, LEAST + 1, -65537, -65536, -257, -256, -255, -129, -128, -2, -1, 0, 1, 127, 128, 255,
            256, 65535, 65536, 0xFFFFFF, 0x1000000, MOST - 1, MOST};
        for (int value : values) {
            Scene put = single(0, INT).then(x -> x.put(0, 0, value)).then(x -> x.encode(0, 0));
            put.dueBytes("INT " + value, doc(anInt(0, value)));
            put.then(x -> x.decode(0)).answers("INT " + value + " again", x -> x.value(1, 0), value);
        }
        single(0, INT).then(x -> x.put(0, 0, -2)).then(x -> x.encode(0, 0)).dueBytes("INT -2",
            12, 0, 0, 0, 16, 97, 0, 254, 255, 255, 255, 0);
        single(0, INT).then(x -> x.put(0, 0, LEAST)).then(x -> x.encode(0, 0)).dueBytes("the least INT",
            12, 0, 0, 0, 16, 97, 0, 0, 0, 0, 128, 0);
        single(0, INT).then(x -> x.put(0, 0, MOST)).then(x -> x.encode(0, 0)).dueBytes("the most INT",
            12, 0, 0, 0, 16, 97, 0, 255, 255, 255, 127, 0);
    }

    private static void int64s() {
        long[] values = {Long.MIN_VALUE, Long.MIN_VALUE + 1, -(1L << 32) - 1, -(1L << 32), LEAST - 1L, LEAST, -256, -1,
            0, 1, 255, 256, MOST, MOST + 1L, 0xFFFFFFFFL, 1L << 32, 1L << 40, 1L << 55, 1L << 56, Long.MAX_VALUE};
        for (long value : values) {
            Scene put = single(0, LONG).then(x -> x.put(0, 0, value)).then(x -> x.encode(0, 0));
            put.dueBytes("LONG " + value, doc(aLong(0, value)));
            put.then(x -> x.decode(0)).answers("LONG " + value + " again", x -> x.value(1, 0), value);
        }
        single(0, LONG).then(x -> x.put(0, 0, -2)).then(x -> x.encode(0, 0)).dueBytes("LONG -2",
            16, 0, 0, 0, 18, 97, 0, 254, 255, 255, 255, 255, 255, 255, 255, 0);
        single(0, LONG).then(x -> x.put(0, 0, 0x0102030405060708L)).then(x -> x.encode(0, 0)).dueBytes("in turn",
            16, 0, 0, 0, 18, 97, 0, 8, 7, 6, 5, 4, 3, 2, 1, 0);
    }

    private static void flags() {
        for (int value = 0; value < 2; value++) {
            int v = value;
            single(0, FLAG).then(x -> x.put(0, 0, v)).then(x -> x.encode(0, 0)).dueBytes("FLAG " + v,
                9, 0, 0, 0, 8, 97, 0, v, 0);
        }
    }

    private static void links() {
        single(0, LINK).then(x -> x.encode(0, 0)).dueBytes("NONE", 8, 0, 0, 0, 10, 97, 0, 0);
        Scene two = single(0, LINK).then(x -> x.make(0)).then(x -> x.link(1, 0, 0));
        two.then(x -> x.encode(1, 0)).dueBytes("object 0", 16, 0, 0, 0, 3, 97, 0, 8, 0, 0, 0, 10, 97, 0, 0, 0);
        two.then(x -> x.link(1, 0, NONE)).then(x -> x.encode(1, 0)).dueBytes("NONE again", 8, 0, 0, 0, 10, 97, 0, 0);
    }

    private static void linkedDocuments() {
        Scene same = oneOfEach().then(x -> x.link(0, 3, 1)).then(x -> x.encode(0, 0));
        same.dueBytes("of the target itself", doc(anInt(0, 40), inner(3, doc(anInt(0, 41), nothing(3)))));
        Scene child = oneOfEach().then(x -> x.link(0, 3, 2)).then(x -> x.encode(0, 0));
        child.dueBytes("of a child", doc(anInt(0, 40), inner(3, doc(mark(2), anInt(0, 42), nothing(3)))));
    }
}
