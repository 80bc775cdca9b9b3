import static written.Documents.aLong;
import static written.Documents.anInt;
import static written.Documents.b;
import static written.Documents.doc;
import static written.Documents.flag;
import static written.Documents.inner;
import static written.Documents.join;
import static written.Documents.mark;
import static written.Documents.nested;
import static written.Documents.nothing;

/** Each promise of the document by itself: ordinary inputs, the edges that it names, and wrong inputs. */
public final class PromiseTest {
    private static final int NONE = PropertyDocuments.NONE;
    private static final int INT = 0;
    private static final int LONG = 1;
    private static final int FLAG = 2;
    private static final int LINK = 3;
    private static final int[] FAR = {Integer.MIN_VALUE, -2, 1000, Integer.MAX_VALUE};

    private static int wrong = 0;

    public static void main(String[] args) {
        promise1NewObject();
        promise2Define();
        promise3Property();
        promise3Letters();
        promise4Make();
        promise5Put();
        promise6Link();
        promise7Value();
        promise8Linked();
        promise9ClassOf();
        promise10Objects();
        promise11Drop();
        promise12Encode();
        promise12Order();
        promise12LongLine();
        promise12Refused();
        promise12TooBig();
        promise12TooDeep();
        promise13Decode();
        promise13Marks();
        promise13Elements();
        promise13Types();
        promise13Order();
        promise13FirstThatHolds();
        promise13Full();
        promise14Sound();
        promise14Texts();
        promise14Depth();
        promise15Depth();
        promise16Elements();
        promise17Size();
        promise18ByteAt();
        promise19Poke();
        promise20Cut();
        System.out.println(wrong == 0 ? "all promises are kept" : wrong + " answers are not as due");
        if (wrong != 0) {
            System.exit(1);
        }
    }

    private static void due(String what, long got, long want) {
        if (got != want) {
            wrong++;
            System.out.println(what + " answered " + got + ", due is " + want);
        }
    }

    private static void due(String what, boolean got, boolean want) {
        due(what, got ? 1 : 0, want ? 1 : 0);
    }

    private static void dueBytes(String what, PropertyDocuments x, int... want) {
        due(what + ": size", x.size(), want.length);
        for (int i = 0; i < want.length; i++) {
            due(what + ": byte " + i, x.byteAt(i), want[i]);
        }
    }

    private static void fill(PropertyDocuments x, int... bytes) {
        x.cut(0);
        for (int i = 0; i < bytes.length; i++) {
            due("poke while filling", x.poke(i, bytes[i]), true);
        }
    }

    private static PropertyDocuments filled(int... bytes) {
        PropertyDocuments x = new PropertyDocuments();
        fill(x, bytes);
        return x;
    }

    /** Class 1 is a child of 0, 2 of 1; 3 stands alone and 4 is its child. */
    private static PropertyDocuments family() {
        PropertyDocuments x = new PropertyDocuments();
        due("define", x.define(NONE), 0);
        due("define", x.define(0), 1);
        due("define", x.define(1), 2);
        due("define", x.define(NONE), 3);
        due("define", x.define(3), 4);
        return x;
    }

    /** The family with INT 0 and LINK 3 to class 1 in class 0, LONG 1 in class 1, FLAG 2 in class 2. */
    private static PropertyDocuments described() {
        PropertyDocuments x = family();
        due("property", x.property(0, 0, INT, 0), true);
        due("property", x.property(1, 1, LONG, 0), true);
        due("property", x.property(2, 2, FLAG, 0), true);
        due("property", x.property(0, 3, LINK, 1), true);
        return x;
    }

    // The promises.

    private static void promise1NewObject() {
        PropertyDocuments x = new PropertyDocuments();
        due("1: objects", x.objects(), 0);
        due("1: size", x.size(), 0);
        due("1: byteAt", x.byteAt(0), NONE);
        due("1: make without a class", x.make(0), NONE);
        due("1: classOf", x.classOf(0), NONE);
        due("1: sound", x.sound(), false);
        due("1: depth", x.depth(), 0);
        due("1: elements", x.elements(), 0);
        due("1: encode", x.encode(0, 0), NONE);
        due("1: decode", x.decode(0), NONE);
        due("1: define", x.define(NONE), 0);
        PropertyDocuments other = new PropertyDocuments();
        due("1: the other object has no class", other.make(0), NONE);
    }

    private static void promise2Define() {
        PropertyDocuments x = new PropertyDocuments();
        for (int parent : FAR) {
            due("2: parent " + parent, x.define(parent), NONE);
        }
        due("2: parent that would be itself", x.define(0), NONE);
        due("2: first", x.define(NONE), 0);
        due("2: parent not there yet", x.define(1), NONE);
        due("2: second", x.define(0), 1);
        due("2: with objects", x.make(0), 0);
        due("2: with objects", x.define(NONE), NONE);
        x.drop();
        for (int i = 2; i < 6; i++) {
            due("2: class " + i, x.define(i % 2 == 0 ? NONE : i - 1), i);
        }
        due("2: seventh", x.define(NONE), NONE);
        due("2: seventh with a parent", x.define(5), NONE);
        due("2: class 5 is there", x.make(5), 0);
        due("2: class 6 is not", x.make(6), NONE);
    }

    private static void promise3Property() {
        PropertyDocuments x = new PropertyDocuments();
        due("3: no class", x.property(0, 0, INT, 0), false);
        x.define(NONE);
        due("3: class below", x.property(-1, 0, INT, 0), false);
        due("3: class above", x.property(1, 0, INT, 0), false);
        due("3: letter below", x.property(0, -1, INT, 0), false);
        due("3: letter above", x.property(0, 26, INT, 0), false);
        due("3: sort below", x.property(0, 0, -1, 0), false);
        due("3: sort above", x.property(0, 0, 4, 0), false);
        due("3: target below", x.property(0, 0, LINK, -1), false);
        due("3: target above", x.property(0, 0, LINK, 1), false);
        for (int far : FAR) {
            due("3: class " + far, x.property(far, 0, INT, 0), false);
            due("3: letter " + far, x.property(0, far, INT, 0), false);
            due("3: sort " + far, x.property(0, 0, far, 0), false);
            due("3: target " + far, x.property(0, 0, LINK, far), false);
        }
        due("3: target does not count", x.property(0, 0, INT, 77), true);
        due("3: target does not count", x.property(0, 25, LONG, -1), true);
        due("3: target does not count", x.property(0, 1, FLAG, 1), true);
        due("3: link to its own class", x.property(0, 2, LINK, 0), true);
        due("3: with objects", x.make(0), 0);
        due("3: with objects", x.property(0, 3, INT, 0), false);
        x.drop();
        for (int letter = 3; letter < 7; letter++) {
            due("3: up to eight", x.property(0, letter, FLAG, 0), true);
        }
        due("3: ninth", x.property(0, 7, FLAG, 0), false);
        x.define(NONE);
        due("3: eight in all", x.property(1, 0, FLAG, 0), false);
        x.make(0);
        due("3: refused ones were not given", x.put(0, 7, 1), false);
        due("3: the eighth was", x.put(0, 6, 1), true);
    }

    private static void promise3Letters() {
        PropertyDocuments x = family();
        x.define(0);
        due("3: middle", x.property(1, 5, INT, 0), true);
        due("3: same class", x.property(1, 5, LONG, 0), false);
        due("3: child", x.property(2, 5, INT, 0), false);
        due("3: parent", x.property(0, 5, INT, 0), false);
        due("3: stranger", x.property(3, 5, INT, 0), true);
        due("3: sibling", x.property(5, 5, FLAG, 0), true);
        due("3: grandchild", x.property(2, 6, INT, 0), true);
        due("3: letter of a grandchild", x.property(0, 6, INT, 0), false);
        due("3: letter of a grandchild, elsewhere", x.property(5, 6, INT, 0), true);
        due("3: grandparent", x.property(0, 7, INT, 0), true);
        due("3: letter of a grandparent", x.property(2, 7, INT, 0), false);
    }

    private static void promise4Make() {
        PropertyDocuments x = family();
        due("4: class below", x.make(-1), NONE);
        due("4: class above", x.make(5), NONE);
        for (int far : FAR) {
            due("4: class " + far, x.make(far), NONE);
        }
        for (int i = 0; i < 12; i++) {
            due("4: object", x.make(i % 5), i);
        }
        due("4: thirteenth", x.make(0), NONE);
        due("4: objects", x.objects(), 12);
        due("4: class of the last", x.classOf(11), 1);
    }

    private static void promise5Put() {
        PropertyDocuments x = described();
        x.make(2);
        x.make(0);
        due("5: int", x.put(0, 0, Integer.MAX_VALUE), true);
        due("5: int above", x.put(0, 0, Integer.MAX_VALUE + 1L), false);
        due("5: int far above", x.put(0, 0, 1L << 32), false);
        due("5: stays", x.value(0, 0), Integer.MAX_VALUE);
        due("5: int", x.put(0, 0, Integer.MIN_VALUE), true);
        due("5: int below", x.put(0, 0, Integer.MIN_VALUE - 1L), false);
        due("5: stays", x.value(0, 0), Integer.MIN_VALUE);
        due("5: long", x.put(0, 1, Long.MIN_VALUE), true);
        due("5: long", x.value(0, 1), Long.MIN_VALUE);
        due("5: long", x.put(0, 1, Long.MAX_VALUE), true);
        due("5: long", x.value(0, 1), Long.MAX_VALUE);
        due("5: flag", x.put(0, 2, 1), true);
        due("5: flag 2", x.put(0, 2, 2), false);
        due("5: flag -1", x.put(0, 2, -1), false);
        due("5: flag with a bit far up", x.put(0, 2, (1L << 32) + 1), false);
        due("5: stays", x.value(0, 2), 1);
        due("5: flag", x.put(0, 2, 0), true);
        due("5: flag", x.value(0, 2), 0);
        due("5: link", x.put(0, 3, 0), false);
        due("5: no such property", x.put(0, 4, 0), false);
        due("5: property of a child", x.put(1, 1, 5), false);
        due("5: no such object", x.put(2, 0, 1), false);
        for (int far : FAR) {
            due("5: object " + far, x.put(far, 0, 1), false);
            due("5: letter " + far, x.put(0, far, 1), false);
        }
        due("5: the other object keeps its value", x.value(1, 0), 0);
    }

    private static void promise6Link() {
        PropertyDocuments x = described();
        for (int cls = 0; cls < 5; cls++) {
            x.make(cls);
        }
        due("6: of the target", x.link(0, 3, 1), true);
        due("6: of the target", x.linked(0, 3), 1);
        due("6: of a child", x.link(0, 3, 2), true);
        due("6: of a parent", x.link(0, 3, 0), false);
        due("6: of a stranger", x.link(0, 3, 3), false);
        due("6: no such object to link to", x.link(0, 3, 5), false);
        due("6: -2", x.link(0, 3, -2), false);
        due("6: stays", x.linked(0, 3), 2);
        due("6: to itself", x.link(1, 3, 1), true);
        due("6: to itself", x.linked(1, 3), 1);
        due("6: NONE", x.link(0, 3, NONE), true);
        due("6: NONE", x.linked(0, 3), NONE);
        due("6: no link", x.link(0, 0, 1), false);
        due("6: no link, NONE", x.link(0, 0, NONE), false);
        due("6: no such property", x.link(0, 4, 1), false);
        due("6: class without properties", x.link(3, 3, 1), false);
        due("6: no such object", x.link(5, 3, 1), false);
        due("6: no such object", x.link(-1, 3, NONE), false);
        for (int far : FAR) {
            due("6: object " + far, x.link(far, 3, 1), false);
            due("6: letter " + far, x.link(0, far, 1), false);
            due("6: other " + far, x.link(0, 3, far), false);
        }
    }

    private static void promise7Value() {
        PropertyDocuments x = described();
        x.make(2);
        x.make(1);
        for (int letter = -1; letter < 27; letter++) {
            due("7: at first", x.value(0, letter), 0);
        }
        x.put(0, 0, 11);
        x.put(0, 1, 12);
        x.put(0, 2, 1);
        x.link(0, 3, 1);
        due("7: int", x.value(0, 0), 11);
        due("7: long", x.value(0, 1), 12);
        due("7: flag", x.value(0, 2), 1);
        due("7: link", x.value(0, 3), 0);
        due("7: another object", x.value(1, 0), 0);
        due("7: property of a child", x.value(1, 2), 0);
        due("7: no such object", x.value(2, 0), 0);
        for (int far : FAR) {
            due("7: object " + far, x.value(far, 0), 0);
            due("7: letter " + far, x.value(0, far), 0);
        }
    }

    private static void promise8Linked() {
        PropertyDocuments x = described();
        x.make(1);
        x.make(3);
        for (int letter = -1; letter < 27; letter++) {
            due("8: at first", x.linked(0, letter), NONE);
        }
        x.link(0, 3, 0);
        due("8: link to object 0", x.linked(0, 3), 0);
        x.put(0, 0, 5);
        due("8: an int", x.linked(0, 0), NONE);
        due("8: no such property", x.linked(1, 3), NONE);
        due("8: no such object", x.linked(2, 3), NONE);
        for (int far : FAR) {
            due("8: object " + far, x.linked(far, 3), NONE);
            due("8: letter " + far, x.linked(0, far), NONE);
        }
    }

    private static void promise9ClassOf() {
        PropertyDocuments x = family();
        x.make(4);
        x.make(0);
        due("9: first", x.classOf(0), 4);
        due("9: second", x.classOf(1), 0);
        due("9: third", x.classOf(2), NONE);
        due("9: below", x.classOf(-1), NONE);
        for (int far : FAR) {
            due("9: object " + far, x.classOf(far), NONE);
        }
    }

    private static void promise10Objects() {
        PropertyDocuments x = family();
        due("10: none", x.objects(), 0);
        for (int i = 1; i <= 12; i++) {
            x.make(0);
            due("10: count", x.objects(), i);
        }
        x.make(0);
        due("10: refused", x.objects(), 12);
        x.drop();
        due("10: dropped", x.objects(), 0);
    }

    private static void promise11Drop() {
        PropertyDocuments x = described();
        x.make(2);
        x.put(0, 0, 5);
        x.put(0, 1, 6);
        x.put(0, 2, 1);
        x.link(0, 3, 0);
        fill(x, 1, 2, 3);
        x.drop();
        due("11: objects", x.objects(), 0);
        due("11: classOf", x.classOf(0), NONE);
        due("11: value", x.value(0, 0), 0);
        due("11: linked", x.linked(0, 3), NONE);
        due("11: put", x.put(0, 0, 1), false);
        dueBytes("11: the buffer stays", x, 1, 2, 3);
        due("11: numbers begin anew", x.make(2), 0);
        due("11: int is 0 again", x.value(0, 0), 0);
        due("11: long is 0 again", x.value(0, 1), 0);
        due("11: flag is 0 again", x.value(0, 2), 0);
        due("11: link is NONE again", x.linked(0, 3), NONE);
        due("11: properties stay", x.put(0, 2, 1), true);
        x.drop();
        due("11: classes stay", x.define(4), 5);
        due("11: letters stay taken", x.property(2, 0, INT, 0), false);
        due("11: properties can be given", x.property(2, 4, INT, 0), true);
    }

    private static void promise12Encode() {
        PropertyDocuments x = described();
        due("12: object", x.make(0), 0);
        due("12: empty values", x.encode(0, 0), 15);
        dueBytes("12: empty values", x, doc(anInt(0, 0), nothing(3)));
        x.make(2);
        x.put(1, 0, 0x01020304);
        x.put(1, 1, 0x1122334455667788L);
        x.put(1, 2, 1);
        int[] second = join(anInt(0, 0x01020304), nothing(3), aLong(1, 0x1122334455667788L), flag(2, 1));
        due("12: without a mark", x.encode(1, 2), 30);
        dueBytes("12: without a mark", x, doc(second));
        due("12: for the parent", x.encode(1, 1), 40);
        dueBytes("12: for the parent", x, doc(mark(2), second));
        due("12: for the grandparent", x.encode(1, 0), 40);
        dueBytes("12: for the grandparent", x, doc(mark(2), second));
        x.link(0, 3, 1);
        x.put(0, 0, Integer.MIN_VALUE);
        due("12: linked", x.encode(0, 0), 55);
        dueBytes("12: linked", x, doc(anInt(0, Integer.MIN_VALUE), inner(3, doc(mark(2), second))));
        x.make(1);
        x.put(2, 1, -2);
        x.link(0, 3, 2);
        x.encode(0, 0);
        dueBytes("12: linked to the target itself", x,
            doc(anInt(0, Integer.MIN_VALUE), inner(3, doc(anInt(0, 0), nothing(3), aLong(1, -2)))));
        x.make(3);
        due("12: no properties", x.encode(3, 3), 5);
        dueBytes("12: no properties", x, 5, 0, 0, 0, 0);
        x.make(4);
        due("12: a mark alone", x.encode(4, 3), 15);
        dueBytes("12: a mark alone", x, doc(mark(4)));
    }

    private static void promise12Order() {
        PropertyDocuments x = family();
        x.property(2, 9, FLAG, 0);
        x.property(0, 8, FLAG, 0);
        x.property(1, 25, FLAG, 0);
        x.property(2, 0, FLAG, 0);
        x.property(3, 1, FLAG, 0);
        x.property(0, 4, FLAG, 0);
        x.make(2);
        x.encode(0, 2);
        dueBytes("12: order", x, doc(flag(8, 0), flag(4, 0), flag(25, 0), flag(9, 0), flag(0, 0)));
    }

    private static void promise12LongLine() {
        PropertyDocuments x = new PropertyDocuments();
        for (int cls = 0; cls < 6; cls++) {
            x.define(cls - 1);
        }
        x.property(0, 0, LINK, 0);
        x.make(5);
        due("6: six classes in a line", x.link(0, 0, 0), true);
        x.link(0, 0, NONE);
        due("12: six classes in a line", x.encode(0, 0), 18);
        dueBytes("12: six classes in a line", x, doc(mark(5), nothing(0)));
        due("13: six classes in a line", x.decode(0), 1);
        due("13: six classes in a line", x.classOf(1), 5);
    }

    private static void promise12Refused() {
        PropertyDocuments x = described();
        x.make(1);
        fill(x, 7, 8);
        due("12: no such object", x.encode(1, 1), NONE);
        due("12: no such object", x.encode(-1, 1), NONE);
        due("12: no class", x.encode(0, 5), NONE);
        due("12: no class", x.encode(0, -1), NONE);
        due("12: neither", x.encode(-1, -1), NONE);
        due("12: a child", x.encode(0, 2), NONE);
        due("12: a stranger", x.encode(0, 3), NONE);
        x.link(0, 3, 0);
        due("12: NONE goes before TOO_BIG", x.encode(0, 2), NONE);
        due("12: too deep", x.encode(0, 1), PropertyDocuments.TOO_BIG);
        for (int far : FAR) {
            due("12: object " + far, x.encode(far, 0), NONE);
            due("12: class " + far, x.encode(0, far), NONE);
        }
        dueBytes("12: the buffer stays", x, 7, 8);
        due("12: the link stays", x.linked(0, 3), 0);
    }

    private static void promise12TooBig() {
        due("12: 120 bytes in two", encodeChain(2, 0, LONG, LONG, LONG, LONG, FLAG, FLAG), 120);
        due("12: 120 bytes in four", encodeChain(4, 0, LONG, LONG), 120);
        due("12: 120 bytes in five", encodeChain(5, 0, FLAG, FLAG, FLAG, FLAG), 120);
        due("12: 111 bytes", encodeChain(3, 0, LONG, LONG, INT), 111);
        due("12: 121 bytes", encodeChain(3, 1, LONG, LONG, INT), PropertyDocuments.TOO_BIG);
        due("12: 130 bytes", encodeChain(5, 1, FLAG, FLAG, FLAG, FLAG), PropertyDocuments.TOO_BIG);
        due("12: 170 bytes", encodeChain(2, 0, LONG, LONG, LONG, LONG, LONG, LONG, LONG), PropertyDocuments.TOO_BIG);
    }

    /** Encodes a chain of so many objects, each with those properties and a link; the last has a class of its own. */
    private static int encodeChain(int count, int lastClass, int... sorts) {
        PropertyDocuments x = new PropertyDocuments();
        x.define(NONE);
        x.define(0);
        x.property(0, 25, LINK, 0);
        for (int letter = 0; letter < sorts.length; letter++) {
            x.property(0, letter, sorts[letter], 0);
        }
        for (int i = 0; i < count; i++) {
            x.make(i == count - 1 ? lastClass : 0);
            x.link(i - 1, 25, i);
        }
        fill(x, 3);
        int answer = x.encode(0, 0);
        if (answer < 0) {
            dueBytes("12: the buffer stays", x, 3);
        } else {
            due("12: size", x.size(), answer);
            due("12: the number in front", x.byteAt(0), answer);
            due("12: sound", x.sound(), true);
        }
        return answer;
    }

    private static void promise12TooDeep() {
        PropertyDocuments x = new PropertyDocuments();
        x.define(NONE);
        x.property(0, 0, LINK, 0);
        x.property(0, 1, LINK, 0);
        for (int i = 0; i < 7; i++) {
            x.make(0);
        }
        for (int i = 0; i < 4; i++) {
            x.link(i, 0, i + 1);
        }
        due("12: depth 5", x.encode(0, 0), 55);
        due("12: depth 5", x.depth(), 5);
        x.link(4, 0, 5);
        due("12: depth 6", x.encode(0, 0), PropertyDocuments.TOO_BIG);
        due("12: the buffer stays", x.size(), 55);
        due("12: from one further", x.encode(1, 0), 55);
        x.link(4, 0, NONE);
        x.link(3, 1, 4);
        due("12: an object linked twice is written twice", x.encode(2, 0), 11 + 11 + 11 + 11);
        x.link(0, 0, NONE);
        x.link(0, 1, 6);
        x.link(6, 0, 0);
        due("12: a ring", x.encode(0, 0), PropertyDocuments.TOO_BIG);
        x.link(0, 0, 0);
        x.link(0, 1, 0);
        due("12: itself twice", x.encode(0, 0), PropertyDocuments.TOO_BIG);
        due("12: the buffer stays", x.size(), 44);
    }

    private static void promise13Decode() {
        PropertyDocuments x = described();
        int[] bytes = doc(anInt(0, -7), inner(3, doc(mark(2), flag(2, 1), aLong(1, Long.MIN_VALUE), nothing(3))));
        fill(x, bytes);
        due("13: first", x.decode(0), 0);
        due("13: objects", x.objects(), 2);
        due("13: class", x.classOf(0), 0);
        due("13: class", x.classOf(1), 2);
        due("13: int", x.value(0, 0), -7);
        due("13: link", x.linked(0, 3), 1);
        due("13: missing int", x.value(1, 0), 0);
        due("13: long", x.value(1, 1), Long.MIN_VALUE);
        due("13: flag", x.value(1, 2), 1);
        due("13: link to nothing", x.linked(1, 3), NONE);
        dueBytes("13: the bytes stay", x, bytes);
        due("13: again, for the child", x.decode(1), 2);
        due("13: class", x.classOf(2), 1);
        due("13: link leads to the new one", x.linked(2, 3), 3);
        due("13: the old link stays", x.linked(0, 3), 1);
        x.drop();
        fill(x, doc());
        due("13: nothing but the end", x.decode(2), 0);
        due("13: class", x.classOf(0), 2);
        for (int letter = 0; letter < 4; letter++) {
            due("13: missing", x.value(0, letter), 0);
            due("13: missing", x.linked(0, letter), NONE);
        }
        fill(x, doc(aLong(1, 0x8899AABBCCDDEEFFL), anInt(0, 0x80000001)));
        due("13: numbers", x.decode(1), 1);
        due("13: long", x.value(1, 1), 0x8899AABBCCDDEEFFL);
        due("13: int", x.value(1, 0), 0x80000001);
        fill(x, doc(anInt(1, -3)));
        due("13: an int for a long", x.decode(1), 2);
        due("13: an int for a long", x.value(2, 1), -3);
        fill(x, doc(nothing(3)));
        due("13: nothing for a link", x.decode(0), 3);
        due("13: nothing for a link", x.linked(3, 3), NONE);
    }

    private static void dueDecode(String what, int cls, int answer, int... bytes) {
        PropertyDocuments x = described();
        x.make(3);
        fill(x, bytes);
        due("13: " + what, x.decode(cls), answer);
        if (answer < 0) {
            due("13: nothing made: " + what, x.objects(), 1);
            dueBytes("13: the bytes stay: " + what, x, bytes);
        }
    }

    private static void promise13Marks() {
        int bad = PropertyDocuments.NOT_FITTING;
        dueDecode("mark of the class itself", 0, 1, doc(mark(0), anInt(0, 1)));
        dueDecode("mark of a child", 0, 1, doc(mark(1), aLong(1, 1)));
        dueDecode("mark behind what it allows", 0, 1, doc(flag(2, 1), mark(2), aLong(1, 1)));
        dueDecode("mark at the end", 0, 1, doc(flag(2, 1), aLong(1, 1), mark(2)));
        dueDecode("mark of a parent", 1, bad, doc(mark(0)));
        dueDecode("mark of a stranger", 0, bad, doc(mark(3)));
        dueDecode("mark of no class", 0, bad, doc(mark(5)));
        dueDecode("mark below the classes", 0, bad, doc(mark(-1)));
        dueDecode("mark far below the classes", 0, bad, doc(mark(-64)));
        dueDecode("two marks", 0, bad, doc(mark(1), mark(1)));
        dueDecode("two marks apart", 0, bad, doc(mark(3), anInt(0, 1), mark(1)));
        dueDecode("empty mark", 0, bad, doc(b(2, 95, 116, 0, 1, 0, 0, 0, 0)));
        dueDecode("long mark", 0, bad, doc(b(2, 95, 116, 0, 3, 0, 0, 0, 65, 65, 0)));
        dueDecode("mark of type 10", 0, bad, doc(b(10, 95, 116, 0)));
        dueDecode("mark of type 8", 0, bad, doc(b(8, 95, 116, 0, 1)));
        dueDecode("mark of type 16", 0, bad, doc(b(16, 95, 116, 0, 2, 0, 0, 0)));
        dueDecode("mark of type 18", 0, bad, doc(b(18, 95, 116, 0, 2, 0, 0, 0, 65, 0, 0, 0)));
        dueDecode("mark of type 3", 0, bad, doc(b(3, 95, 116, 0, 5, 0, 0, 0, 0)));
        dueDecode("no mark where the child is meant", 0, bad, doc(aLong(1, 1)));
        dueDecode("inner mark of the target", 0, 1, doc(inner(3, doc(mark(1)))));
        dueDecode("inner mark of the target's parent", 0, bad, doc(inner(3, doc(mark(0)))));
        dueDecode("inner property of the target", 0, 1, doc(inner(3, doc(aLong(1, 1)))));
        dueDecode("inner property of its child", 0, bad, doc(inner(3, doc(flag(2, 1)))));
        dueDecode("inner mark counts inside alone", 0, bad, doc(flag(2, 1), inner(3, doc(mark(2)))));
        dueDecode("outer mark counts outside alone", 0, bad, doc(mark(2), inner(3, doc(flag(2, 1)))));
        dueDecode("a mark outside and one inside", 0, 1, doc(mark(2), inner(3, doc(mark(2)))));
    }

    private static void promise13Elements() {
        int bad = PropertyDocuments.NOT_FITTING;
        dueDecode("any order", 1, 1, doc(nothing(3), aLong(1, 1), anInt(0, 1)));
        dueDecode("the same name twice", 0, bad, doc(anInt(0, 1), anInt(0, 1)));
        dueDecode("the same name twice apart", 0, bad, doc(nothing(3), anInt(0, 1), nothing(3)));
        dueDecode("the same name in two documents", 0, 1, doc(anInt(0, 1), inner(3, doc(anInt(0, 1)))));
        dueDecode("the same name around a document", 0, bad, doc(anInt(0, 1), inner(3, doc()), anInt(0, 1)));
        dueDecode("no such letter", 0, bad, doc(anInt(4, 1)));
        dueDecode("a capital letter", 0, bad, doc(anInt(-32, 1)));
        dueDecode("a name below the letters", 0, bad, doc(anInt(-1, 1)));
        dueDecode("a name above the letters", 0, bad, doc(anInt(26, 1)));
        dueDecode("an empty name", 0, bad, doc(b(16, 0, 1, 0, 0, 0)));
        dueDecode("a name of two bytes", 0, bad, doc(b(16, 97, 97, 0, 1, 0, 0, 0)));
        dueDecode("half of a mark", 0, bad, doc(b(2, 95, 0, 2, 0, 0, 0, 65, 0)));
        dueDecode("more than a mark", 0, bad, doc(b(2, 95, 116, 116, 0, 2, 0, 0, 0, 65, 0)));
        dueDecode("a mark with another second byte", 0, bad, doc(b(2, 95, 115, 0, 2, 0, 0, 0, 65, 0)));
        dueDecode("class without properties", 3, bad, doc(anInt(0, 1)));
        dueDecode("inside as well", 0, bad, doc(inner(3, doc(anInt(4, 1)))));
        dueDecode("twice inside", 0, bad, doc(inner(3, doc(anInt(0, 1), anInt(0, 1)))));
    }

    private static void promise13Types() {
        int bad = PropertyDocuments.NOT_FITTING;
        int[] contents = {2, 3, 8, 10, 16, 18};
        for (int letter = 0; letter < 4; letter++) {
            for (int type : contents) {
                boolean fits = letter == INT && type == 16 || letter == LONG && (type == 16 || type == 18)
                    || letter == FLAG && type == 8 || letter == LINK && (type == 10 || type == 3);
                dueDecode("sort " + letter + " of type " + type, 2, fits ? 1 : bad, doc(ofType(type, letter)));
            }
        }
    }

    private static int[] ofType(int type, int letter) {
        switch (type) {
            case 2:
                return join(b(2, 97 + letter, 0), b(2, 0, 0, 0, 65, 0));
            case 3:
                return inner(letter, doc());
            case 8:
                return flag(letter, 1);
            case 10:
                return nothing(letter);
            case 16:
                return anInt(letter, 1);
            default:
                return aLong(letter, 1);
        }
    }

    private static void promise13Order() {
        PropertyDocuments x = new PropertyDocuments();
        x.define(NONE);
        x.property(0, 0, LINK, 0);
        x.property(0, 1, LINK, 0);
        x.property(0, 2, INT, 0);
        x.make(0);
        x.make(0);
        int[] left = doc(inner(0, doc(anInt(2, 13))), anInt(2, 12));
        int[] right = doc(anInt(2, 14));
        fill(x, doc(inner(1, left), inner(0, right), anInt(2, 11)));
        due("13: order", x.decode(0), 2);
        due("13: objects", x.objects(), 6);
        for (int i = 0; i < 4; i++) {
            due("13: the documents in the order in which they begin", x.value(2 + i, 2), 11 + i);
        }
        due("13: links", x.linked(2, 1), 3);
        due("13: links", x.linked(2, 0), 5);
        due("13: links", x.linked(3, 0), 4);
        due("13: links", x.linked(3, 1), NONE);
        due("13: links", x.linked(4, 0), NONE);
        due("13: links", x.linked(5, 0), NONE);
    }

    private static void promise13FirstThatHolds() {
        dueDecode("no class before not sound", 5, NONE, b(1));
        dueDecode("no class before not sound", -1, NONE, b(1));
        for (int far : FAR) {
            dueDecode("class " + far, far, NONE, doc());
        }
        dueDecode("nothing is not sound", 0, PropertyDocuments.NOT_SOUND);
        dueDecode("not sound before not fitting", 0, PropertyDocuments.NOT_SOUND, join(doc(anInt(4, 1)), b(0)));
        PropertyDocuments x = described();
        for (int i = 0; i < 12; i++) {
            x.make(0);
        }
        due("13: no class before full", x.decode(5), NONE);
        due("13: not sound before full", x.decode(0), PropertyDocuments.NOT_SOUND);
        fill(x, doc(anInt(4, 1)));
        due("13: not fitting before full", x.decode(0), PropertyDocuments.NOT_FITTING);
        fill(x, doc());
        due("13: full", x.decode(0), PropertyDocuments.FULL);
        due("13: full", x.objects(), 12);
    }

    private static void promise13Full() {
        PropertyDocuments x = described();
        for (int i = 0; i < 10; i++) {
            x.make(0);
        }
        int[] three = doc(inner(3, doc(inner(3, doc()))));
        fill(x, three);
        due("13: thirteen", x.decode(0), PropertyDocuments.FULL);
        due("13: nothing is made", x.objects(), 10);
        dueBytes("13: the bytes stay", x, three);
        fill(x, doc(inner(3, doc())));
        due("13: twelve", x.decode(0), 10);
        due("13: twelve", x.objects(), 12);
        due("13: twelve", x.linked(10, 3), 11);
        manyDocuments(12, 0);
        manyDocuments(13, PropertyDocuments.FULL);
    }

    private static void manyDocuments(int count, int answer) {
        PropertyDocuments x = new PropertyDocuments();
        x.define(NONE);
        for (int letter = 0; letter < 8; letter++) {
            x.property(0, letter, LINK, 0);
        }
        int[][] outer = new int[8][];
        int[][] deeper = new int[count - 9][];
        for (int i = 0; i < 8; i++) {
            outer[i] = inner(i, doc());
        }
        for (int i = 0; i < count - 9; i++) {
            deeper[i] = inner(i, doc());
        }
        outer[0] = inner(0, doc(deeper));
        fill(x, doc(outer));
        due("13: " + count + " documents", x.decode(0), answer);
        due("13: " + count + " documents", x.objects(), answer == 0 ? count : 0);
    }

    private static void dueSound(String what, boolean sound, int... bytes) {
        PropertyDocuments x = filled(bytes);
        due("14: " + what, x.sound(), sound);
        due("14: depth: " + what, x.depth() > 0, sound);
        if (!sound) {
            due("14: elements: " + what, x.elements(), 0);
            x.define(NONE);
            due("14: decode: " + what, x.decode(0), PropertyDocuments.NOT_SOUND);
        }
        dueBytes("14: the bytes stay: " + what, x, bytes);
    }

    private static void promise14Sound() {
        dueSound("nothing", false);
        dueSound("a byte", false, 0);
        dueSound("four bytes", false, 4, 0, 0, 0);
        dueSound("the smallest", true, 5, 0, 0, 0, 0);
        dueSound("one byte more", false, 5, 0, 0, 0, 0, 0);
        dueSound("one byte more, counted", false, 6, 0, 0, 0, 0, 0);
        dueSound("another end", false, 5, 0, 0, 0, 1);
        dueSound("another number", false, 4, 0, 0, 0, 0);
        dueSound("a number far off", false, 5, 1, 0, 0, 0);
        dueSound("a number below 0", false, 5, 0, 0, 128, 0);
        for (int type = 1; type < 256; type++) {
            boolean known = type == 10;
            dueSound("type " + type + " with nothing", known, doc(b(type, 97, 0)));
        }
        dueSound("an empty name", true, doc(b(10, 0)));
        dueSound("a name of 1 and 127", true, doc(b(10, 1, 127, 0)));
        dueSound("a name of 128", false, doc(b(10, 128, 0)));
        dueSound("a name that goes on behind 128", false, doc(b(10, 128, 10, 0)));
        dueSound("a name of 255", false, doc(b(10, 97, 255, 0)));
        dueSound("a name without an end", false, 7, 0, 0, 0, 10, 97, 97);
        dueSound("a flag 0", true, doc(flag(0, 0)));
        dueSound("a flag 1", true, doc(flag(0, 1)));
        dueSound("a flag 2", false, doc(flag(0, 2)));
        dueSound("a flag 255", false, doc(flag(0, 255)));
        dueSound("an int", true, doc(anInt(0, -1)));
        dueSound("an int cut off", false, doc(b(16, 97, 0, 1, 1, 1)));
        dueSound("a long", true, doc(aLong(0, -1)));
        dueSound("a long cut off", false, doc(b(18, 97, 0, 1, 1, 1, 1, 1, 1, 1)));
        dueSound("a flag cut off", false, 8, 0, 0, 0, 8, 97, 0, 0);
        dueSound("two of one name", true, doc(nothing(0), nothing(0)));
        dueSound("names that no property has", true, doc(b(10, 95, 116, 0), b(16, 65, 66, 0, 1, 2, 3, 4)));
        dueSound("an inner number too high", false, doc(b(3, 97, 0, 6, 0, 0, 0, 0)));
        dueSound("an inner number too low", false, doc(b(3, 97, 0, 4, 0, 0, 0, 0)));
        dueSound("an inner document cut off", false, doc(b(3, 97, 0, 5, 0, 0, 0)));
        dueSound("an inner number cut off", false, doc(b(3, 97, 0, 5, 0)));
        int[] full = new int[111];
        java.util.Arrays.fill(full, 127);
        dueSound("120 bytes", true, doc(join(b(10, 1, 1), full, b(0))));
        int[][] small = new int[57][];
        java.util.Arrays.fill(small, b(10, 0));
        dueSound("57 elements", true, doc(small));
        due("16: 57 elements", filled(doc(small)).elements(), 57);
        int[] open = new int[120];
        for (int i = 4; i < 120; i += 2) {
            open[i] = 10;
        }
        open[0] = 120;
        dueSound("58 elements without an end", false, open);
    }

    private static void promise14Texts() {
        dueSound("an empty text", true, doc(b(2, 0, 1, 0, 0, 0, 0)));
        dueSound("a text of 1 and 127", true, doc(b(2, 0, 3, 0, 0, 0, 1, 127, 0)));
        dueSound("a text with 128", false, doc(b(2, 0, 3, 0, 0, 0, 1, 128, 0)));
        dueSound("a text with 0", false, doc(b(2, 0, 3, 0, 0, 0, 1, 0, 0)));
        dueSound("a text of number 0", false, doc(b(2, 0, 0, 0, 0, 0)));
        dueSound("a text of number 0 and an end", false, doc(b(2, 0, 0, 0, 0, 0, 0)));
        dueSound("a text below 0", false, doc(b(2, 0, 255, 255, 255, 255, 0)));
        dueSound("a number too low", false, doc(b(2, 0, 1, 0, 0, 0, 97, 0)));
        dueSound("a number too high", false, doc(b(2, 0, 3, 0, 0, 0, 97, 0)));
        dueSound("a number far too high", false, doc(b(2, 0, 255, 255, 255, 127, 97, 0)));
        dueSound("a text without an end", false, 12, 0, 0, 0, 2, 0, 2, 0, 0, 0, 97, 97);
        dueSound("a number cut off", false, 8, 0, 0, 0, 2, 0, 1, 0);
        dueSound("a text and more", true, doc(b(2, 0, 2, 0, 0, 0, 97, 0), nothing(0)));
    }

    private static void promise14Depth() {
        dueSound("depth 5", true, nested(5));
        dueSound("depth 6", false, nested(6));
        dueSound("depth 6 behind depth 2", false, doc(inner(0, doc()), inner(0, nested(5))));
        int[] open = new int[120];
        for (int i = 4; i + 5 < 120; i += 6) {
            open[i] = 3;
            open[i + 2] = 9;
        }
        dueSound("documents that never end", false, open);
        int[][] many = new int[16][];
        java.util.Arrays.fill(many, b(3, 0, 5, 0, 0, 0, 0));
        dueSound("17 documents", true, doc(many));
        due("16: 16 elements", filled(doc(many)).elements(), 16);
    }

    private static void promise15Depth() {
        for (int depth = 1; depth <= 5; depth++) {
            due("15: depth", filled(nested(depth)).depth(), depth);
        }
        due("15: depth 6 is not sound", filled(nested(6)).depth(), 0);
        due("15: the deepest first", filled(doc(inner(0, nested(3)), inner(1, doc()))).depth(), 4);
        due("15: the deepest last", filled(doc(inner(1, doc()), inner(0, nested(3)))).depth(), 4);
        PropertyDocuments x = filled(nested(3));
        due("15: before", x.depth(), 3);
        fill(x, doc());
        due("15: after", x.depth(), 1);
    }

    private static void promise16Elements() {
        due("16: none", filled(doc()).elements(), 0);
        due("16: one", filled(doc(nothing(0))).elements(), 1);
        due("16: nested", filled(nested(5)).elements(), 4);
        due("16: marks count", filled(doc(mark(0), anInt(0, 1), inner(1, doc(mark(0), flag(0, 1))))).elements(), 5);
        due("16: not sound", filled(join(doc(nothing(0)), b(0))).elements(), 0);
        PropertyDocuments x = filled(doc(nothing(0), nothing(1)));
        due("16: asked once", x.elements(), 2);
        due("16: asked twice", x.elements(), 2);
    }

    private static void promise17Size() {
        PropertyDocuments x = described();
        due("17: empty", x.size(), 0);
        for (int i = 0; i < 120; i++) {
            x.poke(i, 1);
            due("17: grows", x.size(), i + 1);
        }
        x.poke(5, 2);
        due("17: poke inside", x.size(), 120);
        x.cut(7);
        due("17: cut", x.size(), 7);
        x.make(0);
        x.encode(0, 0);
        due("17: encode", x.size(), 15);
        x.decode(0);
        due("17: decode", x.size(), 15);
        x.cut(0);
        due("17: cut to nothing", x.size(), 0);
    }

    private static void promise18ByteAt() {
        PropertyDocuments x = filled(0, 128, 255);
        due("18: first", x.byteAt(0), 0);
        due("18: second", x.byteAt(1), 128);
        due("18: third", x.byteAt(2), 255);
        due("18: behind", x.byteAt(3), NONE);
        due("18: before", x.byteAt(-1), NONE);
        due("18: 120", x.byteAt(120), NONE);
        for (int far : FAR) {
            due("18: place " + far, x.byteAt(far), NONE);
        }
        x.cut(1);
        due("18: cut away", x.byteAt(1), NONE);
    }

    private static void promise19Poke() {
        PropertyDocuments x = new PropertyDocuments();
        due("19: not at the end", x.poke(1, 1), false);
        due("19: before", x.poke(-1, 1), false);
        due("19: added", x.poke(0, 255), true);
        due("19: value 256", x.poke(0, 256), false);
        due("19: value -1", x.poke(0, -1), false);
        due("19: value 256 at the end", x.poke(1, 256), false);
        due("19: value -1 at the end", x.poke(1, -1), false);
        for (int far : FAR) {
            due("19: place " + far, x.poke(far, 1), false);
            due("19: value " + far, x.poke(0, far), false);
        }
        dueBytes("19: refused ones change nothing", x, 255);
        due("19: changed", x.poke(0, 0), true);
        dueBytes("19: changed", x, 0);
        for (int i = 1; i < 120; i++) {
            due("19: added", x.poke(i, i), true);
        }
        due("19: place 120", x.poke(120, 1), false);
        due("19: place 121", x.poke(121, 1), false);
        due("19: the last", x.poke(119, 7), true);
        due("19: the last", x.byteAt(119), 7);
        due("19: full", x.size(), 120);
    }

    private static void promise20Cut() {
        PropertyDocuments x = filled(1, 2, 3, 4);
        due("20: below", x.cut(-1), false);
        due("20: above", x.cut(5), false);
        for (int far : FAR) {
            due("20: count " + far, x.cut(far), false);
        }
        due("20: all", x.cut(4), true);
        dueBytes("20: all", x, 1, 2, 3, 4);
        due("20: two", x.cut(2), true);
        dueBytes("20: two", x, 1, 2);
        due("20: not back", x.cut(3), false);
        due("20: added behind", x.poke(2, 9), true);
        dueBytes("20: added behind", x, 1, 2, 9);
        due("20: none", x.cut(0), true);
        dueBytes("20: none", x);
        due("20: none again", x.cut(0), true);
        PropertyDocuments y = filled(join(doc(nothing(0)), b(0)));
        due("20: not sound before", y.sound(), false);
        y.cut(8);
        due("20: sound after", y.sound(), true);
    }
}
