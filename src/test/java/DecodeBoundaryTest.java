import static written.Documents.aLong;
import static written.Documents.anInt;
import static written.Documents.b;
import static written.Documents.doc;
import static written.Documents.flag;
import static written.Documents.inner;
import static written.Documents.int32;
import static written.Documents.int64;
import static written.Documents.join;
import static written.Documents.mark;
import static written.Documents.markSaying;
import static written.Documents.nothing;
import static written.Documents.text;
import static written.Documents.times;

/** The boundary cases of promise 13 and of the term "a document fits a class". */
public final class DecodeBoundaryTest {
    private static final int NONE = PropertyDocuments.NONE;
    private static final int NOT_SOUND = PropertyDocuments.NOT_SOUND;
    private static final int NOT_FITTING = PropertyDocuments.NOT_FITTING;
    private static final int FULL = PropertyDocuments.FULL;
    private static final int INT = 0;
    private static final int LONG = 1;
    private static final int FLAG = 2;
    private static final int LINK = 3;
    private static final int LEAST = Integer.MIN_VALUE;
    private static final int MOST = Integer.MAX_VALUE;
    private static final int[] TYPES = {2, 3, 8, 10, 16, 18};

    public static void main(String[] args) {
        Due.test("13: NONE when cls is no class", DecodeBoundaryTest::noClass);
        Due.test("13: NOT_SOUND when the bytes are not sound", DecodeBoundaryTest::notSound);
        Due.test("13: NOT_FITTING when the document does not fit", DecodeBoundaryTest::notFitting);
        Due.test("13: FULL when there would be more than 12 objects", DecodeBoundaryTest::full);
        Due.test("13: FULL by many documents side by side", DecodeBoundaryTest::fullSideBySide);
        Due.test("13: The first of these that holds", DecodeBoundaryTest::firstThatHolds);
        Due.test("There is at most one mark", DecodeBoundaryTest::oneMark);
        Due.test("at any place among the elements", DecodeBoundaryTest::markPlaces);
        Due.test("The marks are the elements whose name is 95 116", DecodeBoundaryTest::markNames);
        Due.test("it is of type 2", DecodeBoundaryTest::markTypes);
        Due.test("its text is one byte", DecodeBoundaryTest::markLengths);
        Due.test("65 + the number of a class that is a kind of D", DecodeBoundaryTest::markBytes);
        Due.test("without a mark D is meant", DecodeBoundaryTest::withoutMark);
        Due.test("Each other element has as its name one byte", DecodeBoundaryTest::nameLengths);
        Due.test("97 + the letter of a property of the class meant", DecodeBoundaryTest::nameBytes);
        Due.test("no two elements have the same name", DecodeBoundaryTest::sameNames);
        Due.test("the order does not matter", DecodeBoundaryTest::anyOrder);
        Due.test("properties may be missing; 13: what is missing stays 0 or NONE", DecodeBoundaryTest::missing);
        Due.test("INT 16; LONG 18 or 16; FLAG 8; LINK 10, or 3", DecodeBoundaryTest::types);
        Due.test("3 with a document that fits the target", DecodeBoundaryTest::innerDocuments);
        Due.test("13: the values are those of the elements", DecodeBoundaryTest::values);
        Due.test("13: links are NONE for type 10", DecodeBoundaryTest::nothingLinked);
        Due.test("13: taken in the order in which they begin", DecodeBoundaryTest::orderOfDocuments);
        Due.test("13: the bytes of the buffer, which stay", DecodeBoundaryTest::bytesStay);
        Due.test("A call that is refused changes nothing", DecodeBoundaryTest::refusedInARow);
        Due.test("a decode that answers less than 0 changes nothing", DecodeBoundaryTest::decodesInARow);
        Due.end();
    }

    /**
     * Class 1 is a child of 0, 2 of 1, and 3 of 0; 4 stands alone and 5 is its child. INT 0 and LINK 3 to class 1 are
     * in class 0, LONG 1 in class 1, FLAG 2 in class 2, INT 25 in class 4.
     */
    private static Scene described() {
        return Scene.fresh().then(x -> {
            x.define(NONE);
            x.define(0);
            x.define(1);
            x.define(0);
            x.define(NONE);
            x.define(4);
            x.property(0, 0, INT, 0);
            x.property(0, 3, LINK, 1);
            x.property(1, 1, LONG, 0);
            x.property(2, 2, FLAG, 0);
            x.property(4, 25, INT, 0);
        });
    }

    /** So many objects that are to stay as they are. */
    private static Scene objects(int count) {
        return described().then(x -> {
            for (int i = 0; i < count; i++) {
                x.make(2);
                x.put(i, 0, 50 + i);
                x.put(i, 1, -1 - i);
                x.put(i, 2, 1);
                x.link(i, 3, i);
            }
        });
    }

    private static void dueFit(String what, int cls, int[] bytes) {
        Scene filled = objects(2).withBytes(bytes);
        filled.answers(what, x -> x.decode(cls), 2);
        filled.keeps(what, x -> x.decode(cls), Look.Part.BYTES, Look.Part.DESCRIPTION);
    }

    private static void dueNoFit(String what, int cls, int[] bytes) {
        objects(2).withBytes(bytes).refuses(what, x -> x.decode(cls), NOT_FITTING);
    }

    private static void dueFitting(String what, boolean fits, int cls, int[] bytes) {
        if (fits) {
            dueFit(what, cls, bytes);
        } else {
            dueNoFit(what, cls, bytes);
        }
    }

    /** Documents one inside the other, each for class 1. */
    private static int[] nestedForOne(int depth) {
        return depth == 1 ? doc() : doc(inner(3, nestedForOne(depth - 1)));
    }

    private static void noClass() {
        Scene.fresh().withBytes(doc()).refuses("the first before it is defined", x -> x.decode(0), NONE);
        for (int count = 1; count <= 6; count++) {
            int last = count - 1;
            Scene classes = Scene.fresh();
            for (int i = 0; i < count; i++) {
                classes = classes.then(x -> x.define(NONE));
            }
            classes = classes.withBytes(doc());
            classes.answers("the first", x -> x.decode(0), 0);
            classes.answers("the last", x -> x.decode(last), 0);
            classes.then(x -> x.decode(last)).answers("the last", x -> x.classOf(0), last);
            classes.refuses("NONE", x -> x.decode(NONE), NONE);
            classes.refuses("behind the last", x -> x.decode(last + 1), NONE);
            classes.refuses("the least", x -> x.decode(LEAST), NONE);
            classes.refuses("the most", x -> x.decode(MOST), NONE);
        }
    }

    private static void notSound() {
        Scene two = objects(2);
        two.refuses("no bytes", x -> x.decode(0), NOT_SOUND);
        int[] sound = doc(anInt(0, 1), inner(3, doc(aLong(1, 2))));
        for (int count = 0; count < sound.length; count++) {
            int stay = count;
            two.withBytes(sound).then(x -> x.cut(stay)).refuses("cut to " + stay, x -> x.decode(0), NOT_SOUND);
        }
        two.withBytes(sound).answers("all of them", x -> x.decode(0), 2);
        two.withBytes(join(sound, b(0))).refuses("one more", x -> x.decode(0), NOT_SOUND);
        two.withBytes(nestedForOne(5)).answers("depth 5", x -> x.decode(1), 2);
        two.withBytes(nestedForOne(6)).refuses("depth 6", x -> x.decode(1), NOT_SOUND);
    }

    private static void notFitting() {
        dueFit("nothing in it", 0, doc());
        dueNoFit("a property of no class", 0, doc(anInt(4, 1)));
        dueFit("a property of the child", 1, doc(aLong(1, 1)));
        dueNoFit("a property of the child for the parent", 0, doc(aLong(1, 1)));
        dueNoFit("not fitting at depth 5", 1,
            doc(inner(3, doc(inner(3, doc(inner(3, doc(inner(3, doc(flag(2, 1)))))))))));
        dueFit("fitting at depth 5", 1,
            doc(inner(3, doc(inner(3, doc(inner(3, doc(inner(3, doc(aLong(1, 1)))))))))));
    }

    private static void full() {
        for (int count = 0; count <= 12; count++) {
            int first = count;
            for (int depth = 1; depth <= 5; depth++) {
                Scene filled = objects(count).withBytes(nestedForOne(depth));
                String what = count + " objects and " + depth + " documents";
                if (count + depth <= 12) {
                    filled.answers(what, x -> x.decode(1), first);
                    filled.then(x -> x.decode(1)).answers(what + ": objects", x -> x.objects(), first + depth);
                } else {
                    filled.refuses(what, x -> x.decode(1), FULL);
                }
            }
        }
        Scene dropped = objects(12).withBytes(doc()).then(x -> x.drop());
        dropped.answers("after drop", x -> x.decode(0), 0);
    }

    private static Scene eightLinks() {
        return Scene.fresh().then(x -> {
            x.define(NONE);
            for (int letter = 0; letter < 8; letter++) {
                x.property(0, letter, LINK, 0);
            }
        });
    }

    /** A document with eight inside, and the first of these with so many that there are count in all. */
    private static int[] sideBySide(int count) {
        int[] deeper = {};
        for (int i = 0; i < count - 9; i++) {
            deeper = join(deeper, inner(i, doc()));
        }
        int[] elements = inner(0, doc(deeper));
        for (int i = 1; i < 8; i++) {
            elements = join(elements, inner(i, doc()));
        }
        return doc(elements);
    }

    private static void fullSideBySide() {
        for (int count = 9; count <= 15; count++) {
            int made = count;
            Scene filled = eightLinks().withBytes(sideBySide(count));
            if (count <= 12) {
                filled.answers(count + " documents", x -> x.decode(0), 0);
                filled.then(x -> x.decode(0)).answers("objects", x -> x.objects(), made);
            } else {
                filled.refuses(count + " documents", x -> x.decode(0), FULL);
            }
        }
    }

    private static void firstThatHolds() {
        int[] unfit = doc(anInt(4, 1));
        objects(2).withBytes(1).refuses("no class, not sound", x -> x.decode(6), NONE);
        objects(2).withBytes(unfit).refuses("no class, not fitting", x -> x.decode(6), NONE);
        objects(12).withBytes(doc()).refuses("no class, full", x -> x.decode(6), NONE);
        objects(2).withBytes(join(unfit, b(0))).refuses("not sound, not fitting", x -> x.decode(0), NOT_SOUND);
        objects(12).withBytes(join(doc(), b(0))).refuses("not sound, full", x -> x.decode(0), NOT_SOUND);
        objects(12).refuses("no bytes, full", x -> x.decode(0), NOT_SOUND);
        objects(12).withBytes(unfit).refuses("not fitting, full", x -> x.decode(0), NOT_FITTING);
        objects(11).withBytes(doc(inner(3, unfit))).refuses("not fitting inside, full", x -> x.decode(0), NOT_FITTING);
        objects(12).withBytes(doc()).refuses("full", x -> x.decode(0), FULL);
    }

    private static void oneMark() {
        dueFit("none", 0, doc());
        dueFit("one", 0, doc(mark(0)));
        dueNoFit("two alike", 0, doc(mark(0), mark(0)));
        dueNoFit("two of a child", 0, doc(mark(1), mark(1)));
        dueNoFit("two, the first fitting", 0, doc(mark(1), mark(4)));
        dueNoFit("two, the second fitting", 0, doc(mark(4), mark(1)));
        dueNoFit("two apart", 0, doc(mark(1), anInt(0, 1), mark(1)));
        dueNoFit("three", 0, doc(mark(0), mark(0), mark(0)));
        dueFit("one outside and one inside", 0, doc(mark(2), inner(3, doc(mark(2)))));
        dueNoFit("two inside", 0, doc(inner(3, doc(mark(2), mark(2)))));
    }

    private static void markPlaces() {
        int[][] elements = {anInt(0, 7), nothing(3), aLong(1, 8), flag(2, 1)};
        for (int place = 0; place <= elements.length; place++) {
            int[] body = {};
            for (int i = 0; i <= elements.length; i++) {
                body = join(body, i == place ? mark(2) : b(), i < elements.length ? elements[i] : b());
            }
            dueFit("mark at " + place, 0, doc(body));
            Scene read = described().withBytes(doc(body)).then(x -> x.decode(0));
            read.answers("class with the mark at " + place, x -> x.classOf(0), 2);
            read.answers("FLAG with the mark at " + place, x -> x.value(0, 2), 1);
        }
    }

    private static void markNames() {
        int[] content = text(66);
        dueFit("95 116", 0, doc(b(2, 95, 116, 0), content));
        dueNoFit("95", 0, doc(b(2, 95, 0), content));
        dueNoFit("116", 0, doc(b(2, 116, 0), content));
        dueNoFit("no name", 0, doc(b(2, 0), content));
        dueNoFit("116 95", 0, doc(b(2, 116, 95, 0), content));
        dueNoFit("94 116", 0, doc(b(2, 94, 116, 0), content));
        dueNoFit("96 116", 0, doc(b(2, 96, 116, 0), content));
        dueNoFit("95 115", 0, doc(b(2, 95, 115, 0), content));
        dueNoFit("95 117", 0, doc(b(2, 95, 117, 0), content));
        dueNoFit("95 116 116", 0, doc(b(2, 95, 116, 116, 0), content));
        dueNoFit("95 95 116", 0, doc(b(2, 95, 95, 116, 0), content));
    }

    private static int[] contentOf(int type) {
        switch (type) {
            case 2:
                return text(66);
            case 3:
                return doc();
            case 8:
                return b(1);
            case 10:
                return b();
            case 16:
                return int32(2);
            default:
                return int64(0x4200000002L);
        }
    }

    private static void markTypes() {
        for (int type : TYPES) {
            dueFitting("type " + type, type == 2, 0, doc(b(type, 95, 116, 0), contentOf(type)));
        }
    }

    private static void markLengths() {
        dueNoFit("no byte", 0, doc(markSaying()));
        dueFit("one byte", 0, doc(markSaying(66)));
        dueNoFit("two bytes", 0, doc(markSaying(66, 66)));
        dueNoFit("three bytes", 0, doc(markSaying(66, 66, 66)));
        dueNoFit("one byte that is none and one that is a class", 0, doc(markSaying(1, 66)));
    }

    private static void markBytes() {
        int[] parents = {NONE, 0, 1, 0, NONE, 4};
        for (int said = 1; said < 128; said++) {
            int cls = said - 65;
            for (int wanted = 0; wanted < 6; wanted++) {
                int ancestor = cls >= 0 && cls < 6 ? cls : NONE;
                while (ancestor != NONE && ancestor != wanted) {
                    ancestor = parents[ancestor];
                }
                String what = "byte " + said + " for class " + wanted;
                dueFitting(what, ancestor == wanted, wanted, doc(markSaying(said)));
                if (ancestor == wanted) {
                    int w = wanted;
                    described().withBytes(doc(mark(cls))).then(x -> x.decode(w)).answers(what + ": class",
                        x -> x.classOf(0), cls);
                }
            }
        }
        Scene five = Scene.fresh();
        for (int i = 0; i < 5; i++) {
            int parent = i - 1;
            five = five.then(x -> x.define(parent));
        }
        five.withBytes(doc(mark(4))).answers("the last of five classes", x -> x.decode(0), 0);
        five.withBytes(doc(mark(5))).refuses("behind the last of five", x -> x.decode(0), NOT_FITTING);
    }

    private static void withoutMark() {
        for (int cls = 0; cls < 6; cls++) {
            int c = cls;
            described().withBytes(doc()).then(x -> x.decode(c)).answers("class", x -> x.classOf(0), c);
        }
        dueFit("the class's own", 2, doc(flag(2, 1)));
        dueNoFit("the child's", 1, doc(flag(2, 1)));
        Scene both = described().withBytes(doc(inner(3, doc()))).then(x -> x.decode(2));
        both.answers("outside", x -> x.classOf(0), 2);
        both.answers("inside the target is meant", x -> x.classOf(1), 1);
        dueNoFit("a mark outside says nothing of the inside", 0, doc(mark(2), inner(3, doc(flag(2, 1)))));
        dueNoFit("a mark inside says nothing of the outside", 0, doc(inner(3, doc(mark(2))), flag(2, 1)));
    }

    private static void nameLengths() {
        dueNoFit("no byte", 0, doc(b(16, 0), int32(1)));
        dueFit("one byte", 0, doc(b(16, 97, 0), int32(1)));
        dueNoFit("two bytes", 0, doc(b(16, 97, 97, 0), int32(1)));
        dueNoFit("two bytes, the second a letter", 0, doc(b(16, 1, 97, 0), int32(1)));
        dueNoFit("three bytes", 0, doc(b(16, 97, 97, 97, 0), int32(1)));
    }

    private static void nameBytes() {
        for (int name = 1; name < 128; name++) {
            int[] bytes = doc(b(16, name, 0), int32(1));
            dueFitting("byte " + name + " for class 0", name == 97, 0, bytes);
            dueFitting("byte " + name + " for class 1", name == 97 || name == 98, 1, bytes);
            dueFitting("byte " + name + " for class 4", name == 122, 4, bytes);
            dueFitting("byte " + name + " for class 5", name == 122, 5, bytes);
        }
        dueNoFit("the child's, when the parent is meant", 0, doc(mark(0), aLong(1, 1)));
        dueFit("the child's, when the child is meant", 0, doc(mark(1), aLong(1, 1)));
        dueNoFit("a sibling's", 0, doc(mark(3), aLong(1, 1)));
    }

    private static void sameNames() {
        dueFit("one", 2, doc(anInt(0, 1)));
        dueNoFit("two INT", 2, doc(anInt(0, 1), anInt(0, 1)));
        dueNoFit("two LONG", 2, doc(aLong(1, 1), aLong(1, 1)));
        dueNoFit("two LONG of two types", 2, doc(aLong(1, 1), anInt(1, 1)));
        dueNoFit("two FLAG", 2, doc(flag(2, 1), flag(2, 1)));
        dueNoFit("two LINK", 2, doc(nothing(3), nothing(3)));
        dueNoFit("two LINK of two types", 2, doc(inner(3, doc()), nothing(3)));
        dueNoFit("two LINK with documents", 2, doc(inner(3, doc()), inner(3, doc())));
        dueNoFit("two apart", 2, doc(anInt(0, 1), aLong(1, 1), flag(2, 1), nothing(3), anInt(0, 1)));
        dueNoFit("two around a document", 2, doc(anInt(0, 1), inner(3, doc()), anInt(0, 1)));
        dueFit("one outside and one inside", 2, doc(anInt(0, 1), inner(3, doc(anInt(0, 1)))));
        dueFit("one inside and one outside", 2, doc(inner(3, doc(anInt(0, 1))), anInt(0, 1)));
        dueNoFit("two inside", 2, doc(inner(3, doc(anInt(0, 1), anInt(0, 1)))));
        // The last property that can be given: a row of the seen ones must reach as far.
        int[] eighth = doc(nothing(7), nothing(7));
        eightLinks().withBytes(eighth).refuses("two of the eighth property", x -> x.decode(0), NOT_FITTING);
    }

    private static void anyOrder() {
        int[][] elements = {anInt(0, 7), inner(3, doc()), aLong(1, 8), flag(2, 1)};
        for (int i = 0; i < 256; i++) {
            int[] places = {i & 3, i >> 2 & 3, i >> 4 & 3, i >> 6};
            if ((1 << places[0] | 1 << places[1] | 1 << places[2] | 1 << places[3]) == 15) {
                int[] bytes = doc(elements[places[0]], elements[places[1]], elements[places[2]], elements[places[3]]);
                dueFit("order " + i, 2, bytes);
                Scene read = described().withBytes(bytes).then(x -> x.decode(2));
                read.answers("INT", x -> x.value(0, 0), 7);
                read.answers("LONG", x -> x.value(0, 1), 8);
                read.answers("FLAG", x -> x.value(0, 2), 1);
                read.answers("LINK", x -> x.linked(0, 3), 1);
            }
        }
    }

    private static void missing() {
        int[][] elements = {anInt(0, 7), aLong(1, 8), flag(2, 1), inner(3, doc())};
        Scene dropped = objects(12).then(x -> x.drop());
        for (int given = 0; given < 16; given++) {
            int[] body = {};
            for (int i = 0; i < 4; i++) {
                body = join(body, (given >> i & 1) == 1 ? elements[i] : b());
            }
            Scene read = dropped.withBytes(doc(body)).then(x -> x.decode(2));
            read.answers("INT of " + given, x -> x.value(0, 0), (given & 1) == 1 ? 7 : 0);
            read.answers("LONG of " + given, x -> x.value(0, 1), (given & 2) == 2 ? 8 : 0);
            read.answers("FLAG of " + given, x -> x.value(0, 2), (given & 4) == 4 ? 1 : 0);
            read.answers("LINK of " + given, x -> x.linked(0, 3), (given & 8) == 8 ? 1 : NONE);
        }
        Scene both = dropped.withBytes(doc(inner(3, doc()))).then(x -> x.decode(2));
        both.answers("INT inside", x -> x.value(1, 0), 0);
        both.answers("LONG inside", x -> x.value(1, 1), 0);
        both.answers("LINK inside", x -> x.linked(1, 3), NONE);
    }

    private static void types() {
        int[][] fitting = {{16}, {18, 16}, {8}, {10, 3}};
        for (int letter = INT; letter <= LINK; letter++) {
            for (int type : TYPES) {
                boolean fits = type == fitting[letter][0] || type == fitting[letter][fitting[letter].length - 1];
                int[] element = join(b(type, 97 + letter, 0), contentOf(type));
                dueFitting("sort " + letter + " of type " + type, fits, 2, doc(element));
            }
        }
    }

    private static void innerDocuments() {
        dueFit("the target", 0, doc(inner(3, doc(aLong(1, 1)))));
        dueFit("the target, marked", 0, doc(inner(3, doc(mark(1), aLong(1, 1)))));
        dueFit("the target's child", 0, doc(inner(3, doc(mark(2), flag(2, 1)))));
        dueNoFit("the target's parent", 0, doc(inner(3, doc(mark(0)))));
        dueNoFit("the target's sibling", 0, doc(inner(3, doc(mark(3)))));
        dueNoFit("a stranger", 0, doc(inner(3, doc(mark(4)))));
        dueNoFit("a letter that the target has not", 0, doc(inner(3, doc(flag(2, 1)))));
        dueNoFit("a type that the sort has not", 0, doc(inner(3, doc(aLong(0, 1)))));
    }

    private static void values() {
        for (int value : new int[] {LEAST, LEAST + 1, -256, -1, 0, 1, 127, 128, 255, 256, MOST}) {
            Scene read = objects(1).withBytes(doc(anInt(0, value), anInt(1, value))).then(x -> x.decode(1));
            read.answers("INT " + value, x -> x.value(1, 0), value);
            read.answers("LONG of type 16, " + value, x -> x.value(1, 1), value);
        }
        long[] longs = {Long.MIN_VALUE, -(1L << 32), LEAST - 1L, -1, 0, 1, MOST + 1L, 0xFFFFFFFFL, 1L << 32,
            0x8877665544332211L, Long.MAX_VALUE};
        for (long value : longs) {
            Scene read = objects(1).withBytes(doc(aLong(1, value))).then(x -> x.decode(1));
            read.answers("LONG of type 18, " + value, x -> x.value(1, 1), value);
        }
        for (int value = 0; value < 2; value++) {
            Scene read = objects(1).withBytes(doc(flag(2, value))).then(x -> x.decode(2));
            read.answers("FLAG " + value, x -> x.value(1, 2), value);
        }
        Scene old = objects(1).withBytes(doc(anInt(0, 9), aLong(1, 9), flag(2, 0), nothing(3))).then(x -> x.decode(2));
        old.answers("INT of the old object", x -> x.value(0, 0), 50);
        old.answers("LONG of the old object", x -> x.value(0, 1), -1);
        old.answers("FLAG of the old object", x -> x.value(0, 2), 1);
        old.answers("LINK of the old object", x -> x.linked(0, 3), 0);
    }

    private static void nothingLinked() {
        Scene read = objects(1).withBytes(doc(nothing(3))).then(x -> x.decode(0));
        read.answers("type 10", x -> x.linked(1, 3), NONE);
        Scene other = objects(1).withBytes(doc(inner(3, doc(nothing(3))))).then(x -> x.decode(0));
        other.answers("type 3", x -> x.linked(1, 3), 2);
        other.answers("type 10 inside", x -> x.linked(2, 3), NONE);
    }

    private static void orderOfDocuments() {
        Scene three = Scene.fresh().then(x -> {
            x.define(NONE);
            x.property(0, 0, LINK, 0);
            x.property(0, 1, LINK, 0);
            x.property(0, 2, FLAG, 0);
        });
        int[] inside = doc(inner(1, doc(flag(2, 1))), inner(0, doc()));
        Scene read = three.then(x -> x.make(0)).withBytes(doc(inner(1, inside), inner(0, doc(flag(2, 1)))));
        read.answers("the whole", x -> x.decode(0), 1);
        Scene made = read.then(x -> x.decode(0));
        made.answers("objects", x -> x.objects(), 6);
        made.answers("the whole, letter 1", x -> x.linked(1, 1), 2);
        made.answers("the second, letter 1", x -> x.linked(2, 1), 3);
        made.answers("the second, letter 0", x -> x.linked(2, 0), 4);
        made.answers("the whole, letter 0", x -> x.linked(1, 0), 5);
        made.answers("the third", x -> x.value(3, 2), 1);
        made.answers("the fourth", x -> x.value(4, 2), 0);
        made.answers("the fifth", x -> x.value(5, 2), 1);
    }

    private static void bytesStay() {
        Scene filled = objects(3).withBytes(doc(anInt(0, -7), inner(3, doc(mark(2), flag(2, 1)))));
        filled.keeps("decode", x -> x.decode(0), Look.Part.BYTES, Look.Part.DESCRIPTION);
        filled.then(x -> x.decode(0)).answers("once more", x -> x.decode(0), 5);
        filled.then(x -> x.decode(0)).then(x -> x.drop()).answers("after drop", x -> x.decode(0), 0);
    }

    /** One refused call of each kind, one behind the other: each may spoil what the next one looks at. */
    private static void refuseAll(PropertyDocuments x) {
        Due.equal("define", x.define(NONE), NONE);
        Due.equal("property", x.property(0, 9, INT, 0) ? 1 : 0, 0);
        Due.equal("make", x.make(0), NONE);
        Due.equal("put", x.put(11, 0, 1L << 32) ? 1 : 0, 0);
        Due.equal("link", x.link(11, 3, 12) ? 1 : 0, 0);
        Due.equal("encode for a stranger", x.encode(11, 4), NONE);
        Due.equal("encode of a ring", x.encode(11, 2), PropertyDocuments.TOO_BIG);
        Due.equal("decode", x.decode(0), NOT_SOUND);
        Due.equal("decode for no class", x.decode(6), NONE);
        Due.equal("poke", x.poke(120, 1) ? 1 : 0, 0);
        Due.equal("poke of no byte", x.poke(0, 256) ? 1 : 0, 0);
        Due.equal("cut", x.cut(121) ? 1 : 0, 0);
    }

    private static void refusedInARow() {
        Scene full = objects(12).withBytes(times(120, 255));
        full.keeps("all refused calls in a row", x -> refuseAll(x), Look.Part.values());
        full.then(x -> refuseAll(x)).keeps("and once more", x -> refuseAll(x), Look.Part.values());
    }

    private static void decodesInARow() {
        Scene full = objects(11).withBytes(doc(anInt(0, 9), inner(3, doc(aLong(1, 9)))));
        full.keeps("decodes in a row", x -> {
            Due.equal("no class", x.decode(6), NONE);
            Due.equal("not fitting", x.decode(4), NOT_FITTING);
            Due.equal("full", x.decode(0), FULL);
            Due.equal("full for the child", x.decode(2), FULL);
        }, Look.Part.values());
    }
}
