import static written.Documents.anInt;
import static written.Documents.doc;

/** The boundary cases of promises 4 to 11 and of the terms about objects. */
public final class ObjectBoundaryTest {
    private static final int NONE = PropertyDocuments.NONE;
    private static final int INT = 0;
    private static final int LONG = 1;
    private static final int FLAG = 2;
    private static final int LINK = 3;
    private static final int LEAST = Integer.MIN_VALUE;
    private static final int MOST = Integer.MAX_VALUE;
    private static final long OVER = 1L << 32;

    public static void main(String[] args) {
        Due.test("4: cls is no class", ObjectBoundaryTest::makeClass);
        Due.test("at most 12 objects; 4: there are 12 objects", ObjectBoundaryTest::twelveObjects);
        Due.test("The values are 0 and NONE at first", ObjectBoundaryTest::firstValues);
        Due.test("a value for each property of the class", ObjectBoundaryTest::fullOfValues);
        Due.test("a link for each property of the class", ObjectBoundaryTest::fullOfLinks);
        Due.test("5: there is no such object", ObjectBoundaryTest::putObject);
        Due.test("5: its class has no such property", ObjectBoundaryTest::putProperty);
        Due.test("5: or it is a LINK", ObjectBoundaryTest::putLink);
        Due.test("5: for an INT when value is no int", ObjectBoundaryTest::putInt);
        Due.test("5: for a FLAG when it is neither 0 nor 1", ObjectBoundaryTest::putFlag);
        Due.test("5: a LONG has every long", ObjectBoundaryTest::putLong);
        Due.test("6: there is no such object", ObjectBoundaryTest::linkObject);
        Due.test("6: its class has no such property", ObjectBoundaryTest::linkProperty);
        Due.test("6: or it is no LINK", ObjectBoundaryTest::linkNoLink);
        Due.test("6: other is neither NONE nor an object", ObjectBoundaryTest::linkOther);
        Due.test("6: whose class is a kind of the property's target", ObjectBoundaryTest::linkTarget);
        Due.test("another object, or the object itself, or NONE", ObjectBoundaryTest::linkItself);
        Due.test("7: 0 when there is no such object", ObjectBoundaryTest::valueObject);
        Due.test("7: 0 when its class has no such property", ObjectBoundaryTest::valueProperty);
        Due.test("7: 0 when it is a LINK", ObjectBoundaryTest::valueLink);
        Due.test("8: NONE when it is linked to none", ObjectBoundaryTest::linkedNone);
        Due.test("8: NONE when there is no such object", ObjectBoundaryTest::linkedObject);
        Due.test("8: NONE when its class has no such property", ObjectBoundaryTest::linkedProperty);
        Due.test("8: NONE when it is no LINK", ObjectBoundaryTest::linkedNoLink);
        Due.test("9: NONE when there is no such object", ObjectBoundaryTest::classOfObject);
        Due.test("10: The number of objects", ObjectBoundaryTest::numberOfObjects);
        Due.test("11: All objects are gone", ObjectBoundaryTest::dropObjects);
        Due.test("11: Classes, properties and the buffer stay", ObjectBoundaryTest::dropKeeps);
        Due.end();
    }

    /** Class 0 has INT 0 and LINK 3 to class 1; its child 1 LONG 1; its child 2 FLAG 25; 3 stands alone with INT 5. */
    private static Scene described() {
        return Scene.fresh().then(x -> {
            x.define(NONE);
            x.define(0);
            x.define(1);
            x.define(NONE);
            x.property(0, 0, INT, 0);
            x.property(0, 3, LINK, 1);
            x.property(1, 1, LONG, 0);
            x.property(2, 25, FLAG, 0);
            x.property(3, 5, INT, 0);
        });
    }

    /** So many objects of class 2, which has all four sorts, each with a value of its own. */
    private static Scene objects(int count) {
        return described().then(x -> {
            for (int i = 0; i < count; i++) {
                x.make(2);
                x.put(i, 0, -i - 1);
                x.put(i, 1, OVER * (i + 1));
                x.put(i, 25, i % 2);
                x.link(i, 3, i);
            }
        });
    }

    /** Object 0 is of class 0, 1 of class 1, and so on. */
    private static Scene oneOfEach() {
        return described().then(x -> {
            for (int cls = 0; cls < 4; cls++) {
                x.make(cls);
            }
        });
    }

    private static void makeClass() {
        Scene.fresh().refuses("the first before it is defined", x -> x.make(0), NONE);
        for (int count = 1; count <= 6; count++) {
            int last = count - 1;
            Scene classes = Scene.fresh();
            for (int i = 0; i < count; i++) {
                classes = classes.then(x -> x.define(NONE));
            }
            classes.answers("the first", x -> x.make(0), 0);
            classes.answers("the last", x -> x.make(last), 0);
            classes.refuses("NONE", x -> x.make(NONE), NONE);
            classes.refuses("behind the last", x -> x.make(last + 1), NONE);
            classes.refuses("the least", x -> x.make(LEAST), NONE);
            classes.refuses("the most", x -> x.make(MOST), NONE);
        }
    }

    private static void twelveObjects() {
        for (int count = 0; count < 12; count++) {
            objects(count).answers("object " + count, x -> x.make(0), count);
        }
        objects(11).keeps("the twelfth", x -> x.make(0), Look.Part.BYTES, Look.Part.DESCRIPTION);
        for (int cls = 0; cls < 4; cls++) {
            int c = cls;
            objects(12).refuses("the thirteenth, class " + c, x -> x.make(c), NONE);
        }
        objects(12).refuses("the thirteenth, no class", x -> x.make(4), NONE);
        objects(12).then(x -> x.drop()).answers("after drop", x -> x.make(0), 0);
        objects(11).then(x -> x.make(9)).answers("a refused one takes no number", x -> x.make(0), 11);
    }

    private static void firstValues() {
        Scene again = objects(12).then(x -> x.drop());
        for (int count = 0; count < 12; count++) {
            int made = count;
            again = again.then(x -> x.make(2));
            again.answers("INT of object " + made, x -> x.value(made, 0), 0);
            again.answers("LONG of object " + made, x -> x.value(made, 1), 0);
            again.answers("FLAG of object " + made, x -> x.value(made, 25), 0);
            again.answers("LINK of object " + made, x -> x.linked(made, 3), NONE);
        }
    }

    /** Twelve objects of a class with eight properties of that sort. */
    private static Scene full(int sort) {
        return Scene.fresh().then(x -> {
            x.define(NONE);
            for (int letter = 0; letter < 8; letter++) {
                x.property(0, letter, sort, 0);
            }
            for (int i = 0; i < 12; i++) {
                x.make(0);
            }
        });
    }

    private static void fullOfValues() {
        Scene full = full(LONG).then(x -> {
            for (int i = 0; i < 96; i++) {
                x.put(i / 8, i % 8, OVER + i);
            }
        });
        for (int i = 0; i < 96; i++) {
            int object = i / 8;
            int letter = i % 8;
            full.answers("object " + object + ", letter " + letter, x -> x.value(object, letter), OVER + i);
        }
        full.refuses("the thirteenth object", x -> x.make(0), NONE);
        full.refuses("a ninth property", x -> x.put(11, 8, 1));
    }

    private static void fullOfLinks() {
        Scene full = full(LINK).then(x -> {
            for (int i = 0; i < 96; i++) {
                x.link(i / 8, i % 8, i % 12);
            }
        });
        for (int i = 0; i < 96; i++) {
            int object = i / 8;
            int letter = i % 8;
            full.answers("object " + object + ", letter " + letter, x -> x.linked(object, letter), i % 12);
        }
        full.refuses("the thirteenth object", x -> x.make(0), NONE);
        full.refuses("a ninth property", x -> x.link(11, 8, 1));
    }

    private static void putObject() {
        described().refuses("the first before it is made", x -> x.put(0, 0, 7));
        for (int count = 1; count <= 12; count++) {
            int last = count - 1;
            objects(count).takes("the first", x -> x.put(0, 0, 7));
            objects(count).takes("the last", x -> x.put(last, 0, 7));
            objects(count).refuses("before the first", x -> x.put(-1, 0, 7));
            objects(count).refuses("behind the last", x -> x.put(last + 1, 0, 7));
        }
        objects(12).refuses("the least", x -> x.put(LEAST, 0, 7));
        objects(12).refuses("the most", x -> x.put(MOST, 0, 7));
        objects(3).then(x -> x.drop()).refuses("a dropped one", x -> x.put(0, 0, 7));
        Scene put = objects(3).then(x -> x.put(1, 0, 7));
        put.answers("the object has it", x -> x.value(1, 0), 7);
        put.answers("the one before has not", x -> x.value(0, 0), -1);
        put.answers("the one behind has not", x -> x.value(2, 0), -3);
    }

    private static void putProperty() {
        Scene each = oneOfEach();
        each.takes("its own", x -> x.put(2, 25, 1));
        each.takes("the parent's", x -> x.put(2, 1, 1));
        each.takes("the grandparent's", x -> x.put(2, 0, 1));
        each.refuses("the child's", x -> x.put(1, 25, 1));
        each.refuses("the grandchild's", x -> x.put(0, 25, 1));
        each.refuses("a stranger's", x -> x.put(2, 5, 1));
        each.refuses("a stranger's, the other way", x -> x.put(3, 0, 1));
        for (int letter : new int[] {LEAST, -1, 2, 24, 26, MOST}) {
            each.refuses("letter " + letter, x -> x.put(2, letter, 1));
        }
    }

    private static void putLink() {
        for (long value : new long[] {0, 1, NONE, Long.MIN_VALUE, Long.MAX_VALUE}) {
            objects(2).refuses("value " + value, x -> x.put(0, 3, value));
        }
    }

    private static void putInt() {
        Scene one = objects(1);
        for (int value : new int[] {LEAST, LEAST + 1, -1, 0, 1, MOST - 1, MOST}) {
            one.takes("value " + value, x -> x.put(0, 0, value));
            one.then(x -> x.put(0, 0, value)).answers("what was put", x -> x.value(0, 0), value);
        }
        long[] beyond = {MOST + 1L, LEAST - 1L, OVER, OVER - 1, OVER + 1, -OVER, -OVER - 1, Long.MIN_VALUE,
            Long.MIN_VALUE + 1, Long.MAX_VALUE, Long.MAX_VALUE - 1};
        for (long value : beyond) {
            one.refuses("value " + value, x -> x.put(0, 0, value));
        }
    }

    private static void putFlag() {
        Scene two = objects(2);
        for (int object = 0; object < 2; object++) {
            int o = object;
            for (int value = 0; value < 2; value++) {
                int v = value;
                two.takes("value " + v, x -> x.put(o, 25, v));
                two.then(x -> x.put(o, 25, v)).answers("what was put", x -> x.value(o, 25), v);
            }
            for (long value : new long[] {-1, 2, 3, 256, 257, OVER, OVER + 1, Long.MIN_VALUE, Long.MIN_VALUE + 1,
                Long.MAX_VALUE}) {
                two.refuses("value " + value, x -> x.put(o, 25, value));
            }
        }
    }

    private static void putLong() {
        long[] values = {Long.MIN_VALUE, Long.MIN_VALUE + 1, -OVER, LEAST - 1L, LEAST, -1, 0, 1, MOST, MOST + 1L, OVER,
            Long.MAX_VALUE - 1, Long.MAX_VALUE};
        for (long value : values) {
            objects(1).takes("value " + value, x -> x.put(0, 1, value));
            objects(1).then(x -> x.put(0, 1, value)).answers("what was put", x -> x.value(0, 1), value);
        }
        objects(1).keeps("put", x -> x.put(0, 1, 8), Look.Part.BYTES, Look.Part.DESCRIPTION);
    }

    private static void linkObject() {
        described().refuses("the first before it is made", x -> x.link(0, 3, NONE));
        for (int count = 1; count <= 12; count++) {
            int last = count - 1;
            objects(count).takes("the first", x -> x.link(0, 3, last));
            objects(count).takes("the last", x -> x.link(last, 3, 0));
            objects(count).refuses("before the first", x -> x.link(-1, 3, 0));
            objects(count).refuses("before the first, to NONE", x -> x.link(-1, 3, NONE));
            objects(count).refuses("behind the last", x -> x.link(last + 1, 3, 0));
        }
        objects(12).refuses("the least", x -> x.link(LEAST, 3, 0));
        objects(12).refuses("the most", x -> x.link(MOST, 3, 0));
        objects(3).then(x -> x.drop()).refuses("a dropped one", x -> x.link(0, 3, NONE));
        Scene linked = objects(3).then(x -> x.link(1, 3, 2));
        linked.answers("the object has it", x -> x.linked(1, 3), 2);
        linked.answers("the one before has not", x -> x.linked(0, 3), 0);
        linked.answers("the one behind has not", x -> x.linked(2, 3), 2);
    }

    private static void linkProperty() {
        Scene each = oneOfEach();
        each.takes("its own", x -> x.link(0, 3, 1));
        each.takes("the grandparent's", x -> x.link(2, 3, 1));
        each.refuses("a stranger's", x -> x.link(3, 3, 1));
        for (int letter : new int[] {LEAST, -1, 2, 4, 26, MOST}) {
            each.refuses("letter " + letter, x -> x.link(2, letter, 1));
            each.refuses("letter " + letter + ", to NONE", x -> x.link(2, letter, NONE));
        }
    }

    private static void linkNoLink() {
        for (int letter : new int[] {0, 1, 25}) {
            objects(2).refuses("letter " + letter, x -> x.link(0, letter, 1));
            objects(2).refuses("letter " + letter + ", to NONE", x -> x.link(0, letter, NONE));
        }
    }

    private static void linkOther() {
        for (int count = 1; count <= 12; count++) {
            int last = count - 1;
            objects(count).takes("NONE", x -> x.link(0, 3, NONE));
            objects(count).takes("the first", x -> x.link(last, 3, 0));
            objects(count).takes("the last", x -> x.link(0, 3, last));
            objects(count).refuses("below NONE", x -> x.link(0, 3, -2));
            objects(count).refuses("behind the last", x -> x.link(0, 3, last + 1));
        }
        objects(12).refuses("the least", x -> x.link(0, 3, LEAST));
        objects(12).refuses("the most", x -> x.link(0, 3, MOST));
    }

    private static void linkTarget() {
        Scene each = oneOfEach();
        each.takes("the target", x -> x.link(0, 3, 1));
        each.takes("the target's child", x -> x.link(0, 3, 2));
        each.refuses("the target's parent", x -> x.link(0, 3, 0));
        each.refuses("a stranger", x -> x.link(0, 3, 3));
        Scene line = Scene.fresh().then(x -> {
            for (int cls = 0; cls < 6; cls++) {
                x.define(cls - 1);
            }
            for (int cls = 0; cls < 6; cls++) {
                x.property(0, cls, LINK, cls);
            }
            for (int cls = 0; cls < 6; cls++) {
                x.make(cls);
            }
        });
        for (int i = 0; i < 36; i++) {
            int target = i / 6;
            int other = i % 6;
            if (other >= target) {
                line.takes("class " + other + " for " + target, x -> x.link(5, target, other));
            } else {
                line.refuses("class " + other + " for " + target, x -> x.link(5, target, other));
            }
        }
    }

    private static void linkItself() {
        Scene two = objects(2).then(x -> x.link(0, 3, 1));
        two.answers("another", x -> x.linked(0, 3), 1);
        two.takes("itself", x -> x.link(0, 3, 0));
        two.then(x -> x.link(0, 3, 0)).answers("itself", x -> x.linked(0, 3), 0);
        two.then(x -> x.link(0, 3, NONE)).answers("NONE", x -> x.linked(0, 3), NONE);
        two.keeps("link", x -> x.link(0, 3, 0), Look.Part.BYTES, Look.Part.DESCRIPTION);
    }

    private static void valueObject() {
        described().tells("the first before it is made", x -> x.value(0, 0), 0);
        for (int count = 1; count <= 12; count++) {
            int last = count - 1;
            objects(count).tells("the first", x -> x.value(0, 0), -1);
            objects(count).tells("the last", x -> x.value(last, 0), -count);
            objects(count).tells("before the first", x -> x.value(-1, 0), 0);
            objects(count).tells("behind the last", x -> x.value(last + 1, 0), 0);
        }
        objects(12).tells("the least", x -> x.value(LEAST, 0), 0);
        objects(12).tells("the most", x -> x.value(MOST, 0), 0);
        objects(12).then(x -> x.drop()).tells("a dropped one", x -> x.value(0, 0), 0);
    }

    private static void valueProperty() {
        Scene each = oneOfEach().then(x -> {
            x.put(2, 0, 11);
            x.put(2, 1, 12);
            x.put(2, 25, 1);
            x.put(3, 5, 13);
        });
        each.tells("its own", x -> x.value(2, 25), 1);
        each.tells("the parent's", x -> x.value(2, 1), 12);
        each.tells("the grandparent's", x -> x.value(2, 0), 11);
        each.tells("the child's", x -> x.value(1, 25), 0);
        each.tells("a stranger's", x -> x.value(2, 5), 0);
        for (int letter : new int[] {LEAST, -1, 2, 24, 26, MOST}) {
            each.tells("letter " + letter, x -> x.value(2, letter), 0);
        }
    }

    private static void valueLink() {
        objects(3).tells("linked to itself", x -> x.value(2, 3), 0);
        objects(3).then(x -> x.link(2, 3, NONE)).tells("linked to none", x -> x.value(2, 3), 0);
        objects(3).then(x -> x.put(2, 3, 8)).tells("after a put that is refused", x -> x.value(2, 3), 0);
    }

    private static void linkedNone() {
        described().then(x -> x.make(0)).tells("at first", x -> x.linked(0, 3), NONE);
        objects(2).tells("linked", x -> x.linked(1, 3), 1);
        objects(2).tells("linked to object 0", x -> x.linked(0, 3), 0);
        objects(2).then(x -> x.link(1, 3, NONE)).tells("no more", x -> x.linked(1, 3), NONE);
    }

    private static void linkedObject() {
        described().tells("the first before it is made", x -> x.linked(0, 3), NONE);
        for (int count = 1; count <= 12; count++) {
            int last = count - 1;
            objects(count).tells("the first", x -> x.linked(0, 3), 0);
            objects(count).tells("the last", x -> x.linked(last, 3), last);
            objects(count).tells("before the first", x -> x.linked(-1, 3), NONE);
            objects(count).tells("behind the last", x -> x.linked(last + 1, 3), NONE);
        }
        objects(12).tells("the least", x -> x.linked(LEAST, 3), NONE);
        objects(12).tells("the most", x -> x.linked(MOST, 3), NONE);
        objects(12).then(x -> x.drop()).tells("a dropped one", x -> x.linked(0, 3), NONE);
    }

    private static void linkedProperty() {
        Scene each = oneOfEach().then(x -> x.link(2, 3, 1));
        each.tells("the grandparent's", x -> x.linked(2, 3), 1);
        each.tells("a stranger's", x -> x.linked(3, 3), NONE);
        for (int letter : new int[] {LEAST, -1, 2, 4, 26, MOST}) {
            each.tells("letter " + letter, x -> x.linked(2, letter), NONE);
        }
    }

    private static void linkedNoLink() {
        Scene one = objects(1).then(x -> x.put(0, 0, 0)).then(x -> x.put(0, 1, 0));
        for (int letter : new int[] {0, 1, 25}) {
            one.tells("letter " + letter, x -> x.linked(0, letter), NONE);
            one.then(x -> x.link(0, letter, 0)).tells("after a link that is refused",
                x -> x.linked(0, letter), NONE);
        }
    }

    private static void classOfObject() {
        described().tells("the first before it is made", x -> x.classOf(0), NONE);
        Scene each = oneOfEach();
        each.tells("the first", x -> x.classOf(0), 0);
        each.tells("the last", x -> x.classOf(3), 3);
        each.tells("before the first", x -> x.classOf(-1), NONE);
        each.tells("behind the last", x -> x.classOf(4), NONE);
        each.then(x -> x.drop()).tells("a dropped one", x -> x.classOf(0), NONE);
        objects(12).tells("the twelfth", x -> x.classOf(11), 2);
        objects(12).tells("the thirteenth", x -> x.classOf(12), NONE);
        objects(12).tells("the least", x -> x.classOf(LEAST), NONE);
        objects(12).tells("the most", x -> x.classOf(MOST), NONE);
    }

    private static void numberOfObjects() {
        for (int count = 0; count <= 12; count++) {
            objects(count).tells("objects", x -> x.objects(), count);
        }
        objects(12).then(x -> x.make(0)).tells("after a make that is refused", x -> x.objects(), 12);
        objects(12).then(x -> x.drop()).tells("after drop", x -> x.objects(), 0);
        objects(3).withBytes(doc()).then(x -> x.decode(0)).tells("after decode", x -> x.objects(), 4);
    }

    private static void dropObjects() {
        for (int count = 0; count <= 12; count++) {
            Scene gone = objects(count).then(x -> x.drop());
            gone.tells("objects", x -> x.objects(), 0);
            gone.tells("classOf", x -> x.classOf(0), NONE);
            gone.refuses("put", x -> x.put(0, 0, 1));
            gone.refuses("encode", x -> x.encode(0, 0), NONE);
            gone.answers("make", x -> x.make(0), 0);
            gone.then(x -> x.drop()).tells("dropped again", x -> x.objects(), 0);
        }
    }

    private static void dropKeeps() {
        Scene full = objects(12).withBytes(doc(anInt(0, 5)));
        full.keeps("drop", x -> x.drop(), Look.Part.BYTES, Look.Part.DESCRIPTION);
        objects(0).keeps("drop of nothing", x -> x.drop(), Look.Part.values());
        full.then(x -> x.drop()).answers("the bytes can be read", x -> x.decode(0), 0);
    }
}
