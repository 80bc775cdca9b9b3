/** The boundary cases of promises 1 to 3 and of the terms about classes and properties. */
public final class DescribeBoundaryTest {
    private static final int NONE = PropertyDocuments.NONE;
    private static final int INT = 0;
    private static final int LONG = 1;
    private static final int FLAG = 2;
    private static final int LINK = 3;
    private static final int LEAST = Integer.MIN_VALUE;
    private static final int MOST = Integer.MAX_VALUE;

    public static void main(String[] args) {
        Due.test("An object is used for at most 512 calls", DescribeBoundaryTest::call512);
        Due.test("1: No classes", DescribeBoundaryTest::noClasses);
        Due.test("1: no objects", DescribeBoundaryTest::noObjects);
        Due.test("1: an empty buffer", DescribeBoundaryTest::emptyBuffer);
        Due.test("1: a new object", DescribeBoundaryTest::nothingOfAnother);
        Due.test("Classes are numbered 0, 1, ..; 2: answers its number", DescribeBoundaryTest::numbers);
        Due.test("at most 6 classes; 2: there are 6 classes", DescribeBoundaryTest::sixClasses);
        Due.test("2: parent is neither NONE nor a class", DescribeBoundaryTest::parents);
        Due.test("a parent, an earlier class", DescribeBoundaryTest::earlierParents);
        Due.test("2: there are objects", DescribeBoundaryTest::defineWithObjects);
        Due.test("C is D or D is an ancestor of C", DescribeBoundaryTest::kinds);
        Due.test("3: cls is no class", DescribeBoundaryTest::propertyClass);
        Due.test("letter 0 .. 25; 3: letter is not 0 .. 25", DescribeBoundaryTest::letters);
        Due.test("sort 0 .. 3; 3: sort is not 0 .. 3", DescribeBoundaryTest::sorts);
        Due.test("3: sort is 3 and target is no class", DescribeBoundaryTest::targets);
        Due.test("3: target counts for LINK alone", DescribeBoundaryTest::targetOfNoLink);
        Due.test("3: the letter is that of a property of the class", DescribeBoundaryTest::lettersOfClass);
        Due.test("3: or of a class that has it as an ancestor", DescribeBoundaryTest::lettersOfChildren);
        Due.test("no two of them may have the same letter", DescribeBoundaryTest::lettersOfOthers);
        Due.test("at most 8 properties in all; 3: 8 properties were given", DescribeBoundaryTest::eightProperties);
        Due.test("3: there are objects", DescribeBoundaryTest::propertyWithObjects);
        Due.end();
    }

    /** So many classes without parents. */
    private static Scene classes(int count) {
        return Scene.fresh().then(x -> {
            for (int i = 0; i < count; i++) {
                x.define(NONE);
            }
        });
    }

    /** So many classes, each the child of the one before. */
    private static Scene line(int count) {
        return Scene.fresh().then(x -> {
            for (int i = 0; i < count; i++) {
                x.define(i - 1);
            }
        });
    }

    /** One class with that many FLAG properties, of the letters 0, 1, .. */
    private static Scene flags(int count) {
        return classes(1).then(x -> {
            for (int letter = 0; letter < count; letter++) {
                x.property(0, letter, FLAG, 0);
            }
        });
    }

    private static void call512() {
        PropertyDocuments x = new PropertyDocuments();
        x.define(NONE);
        x.property(0, 0, LONG, 0);
        x.make(0);
        int calls = 3;
        while (calls < 510) {
            Due.equal("put in call " + calls, x.put(0, 0, calls) ? 1 : 0, 1);
            calls++;
        }
        Due.equal("encode in call 511", x.encode(0, 0), 16);
        Due.equal("value in call 512", x.value(0, 0), 509);
    }

    private static void noClasses() {
        Scene.fresh().refuses("make", x -> x.make(0), NONE);
        Scene.fresh().refuses("property", x -> x.property(0, 0, INT, 0));
        Scene.fresh().refuses("decode", x -> x.decode(0), NONE);
        Scene.fresh().refuses("define with class 0 as parent", x -> x.define(0), NONE);
        Scene.fresh().answers("define", x -> x.define(NONE), 0);
    }

    private static void noObjects() {
        Scene.fresh().tells("objects", x -> x.objects(), 0);
        Scene.fresh().tells("classOf", x -> x.classOf(0), NONE);
        Scene.fresh().tells("value", x -> x.value(0, 0), 0);
        Scene.fresh().tells("linked", x -> x.linked(0, 0), NONE);
        Scene.fresh().refuses("put", x -> x.put(0, 0, 0));
        Scene.fresh().refuses("link", x -> x.link(0, 0, NONE));
        Scene.fresh().refuses("encode", x -> x.encode(0, 0), NONE);
        classes(1).answers("the first object", x -> x.make(0), 0);
    }

    private static void emptyBuffer() {
        Scene.fresh().tells("size", x -> x.size(), 0);
        Scene.fresh().tells("byteAt", x -> x.byteAt(0), NONE);
        Scene.fresh().tells("sound", x -> x.sound(), false);
        Scene.fresh().tells("depth", x -> x.depth(), 0);
        Scene.fresh().tells("elements", x -> x.elements(), 0);
        Scene.fresh().refuses("cut", x -> x.cut(1));
        Scene.fresh().refuses("poke behind the first place", x -> x.poke(1, 0));
        Scene.fresh().takes("poke at the first place", x -> x.poke(0, 0));
    }

    private static void nothingOfAnother() {
        PropertyDocuments other = new PropertyDocuments();
        other.define(NONE);
        other.property(0, 0, INT, 0);
        other.make(0);
        other.encode(0, 0);
        Scene.fresh().tells("objects", x -> x.objects(), 0);
        Scene.fresh().tells("size", x -> x.size(), 0);
        Scene.fresh().refuses("make", x -> x.make(0), NONE);
        Due.equal("the other's object", other.objects(), 1);
        Due.equal("the other's bytes", other.size(), 12);
    }

    private static void numbers() {
        for (int count = 0; count < 6; count++) {
            classes(count).answers("class " + count, x -> x.define(NONE), count);
            classes(count).keeps("define", x -> x.define(NONE), Look.Part.BYTES, Look.Part.OBJECTS);
        }
        classes(2).then(x -> x.define(7)).answers("a refused one takes no number", x -> x.define(NONE), 2);
    }

    private static void sixClasses() {
        classes(5).answers("the sixth", x -> x.define(NONE), 5);
        classes(5).answers("the sixth with a parent", x -> x.define(4), 5);
        classes(6).refuses("the seventh", x -> x.define(NONE), NONE);
        classes(6).refuses("the seventh with the first as parent", x -> x.define(0), NONE);
        classes(6).refuses("the seventh with the last as parent", x -> x.define(5), NONE);
        line(6).refuses("the seventh of a line", x -> x.define(5), NONE);
        classes(6).answers("the sixth is a class", x -> x.make(5), 0);
        classes(6).refuses("a seventh is none", x -> x.make(6), NONE);
    }

    private static void parents() {
        for (int count = 0; count < 6; count++) {
            int last = count - 1;
            classes(count).answers("NONE", x -> x.define(NONE), count);
            classes(count).refuses("below NONE", x -> x.define(-2), NONE);
            classes(count).refuses("the least", x -> x.define(LEAST), NONE);
            classes(count).refuses("the most", x -> x.define(MOST), NONE);
            classes(count).refuses("behind the last", x -> x.define(last + 1), NONE);
            if (count > 0) {
                classes(count).answers("the first", x -> x.define(0), count);
                classes(count).answers("the last", x -> x.define(last), count);
            }
        }
    }

    private static void earlierParents() {
        for (int count = 0; count < 6; count++) {
            int own = count;
            classes(count).refuses("itself", x -> x.define(own), NONE);
            classes(count).refuses("a later one", x -> x.define(own + 1), NONE);
        }
    }

    private static void defineWithObjects() {
        Scene one = classes(2).then(x -> x.make(0));
        one.refuses("with one object", x -> x.define(NONE), NONE);
        one.refuses("with one object, a parent", x -> x.define(1), NONE);
        one.then(x -> x.drop()).answers("after drop", x -> x.define(1), 2);
        classes(2).then(x -> x.make(2)).answers("after a make that is refused", x -> x.define(1), 2);
        Scene bytes = classes(2).withBytes(5, 0, 0, 0, 0);
        bytes.answers("with bytes", x -> x.define(NONE), 2);
        bytes.then(x -> x.decode(0)).refuses("with an object from bytes", x -> x.define(NONE), NONE);
        bytes.then(x -> x.decode(2)).answers("after a decode that is refused", x -> x.define(NONE), 2);
    }

    private static void kinds() {
        Scene line = line(6);
        for (int cls = 0; cls < 6; cls++) {
            for (int other = 0; other < 6; other++) {
                int c = cls;
                int d = other;
                int want = c == d ? 5 : c > d ? 15 : NONE;
                line.then(x -> x.make(c)).answers("class " + c + " for " + d, x -> x.encode(0, d), want);
            }
        }
        Scene fork = line(2).then(x -> x.define(0)).then(x -> x.make(2));
        fork.answers("for the parent", x -> x.encode(0, 0), 15);
        fork.refuses("for a sibling", x -> x.encode(0, 1), NONE);
        classes(2).then(x -> x.make(1)).refuses("for a stranger", x -> x.encode(0, 0), NONE);
    }

    private static void propertyClass() {
        Scene.fresh().refuses("the first before it is defined", x -> x.property(0, 0, INT, 0));
        for (int count = 1; count <= 6; count++) {
            int last = count - 1;
            classes(count).takes("the first", x -> x.property(0, 0, INT, 0));
            classes(count).takes("the last", x -> x.property(last, 0, INT, 0));
            classes(count).refuses("before the first", x -> x.property(-1, 0, INT, 0));
            classes(count).refuses("behind the last", x -> x.property(last + 1, 0, INT, 0));
        }
        classes(6).refuses("the least", x -> x.property(LEAST, 0, INT, 0));
        classes(6).refuses("the most", x -> x.property(MOST, 0, INT, 0));
    }

    private static void letters() {
        for (int sort = INT; sort <= LINK; sort++) {
            int s = sort;
            classes(1).takes("letter 0", x -> x.property(0, 0, s, 0));
            classes(1).takes("letter 25", x -> x.property(0, 25, s, 0));
            classes(1).refuses("letter -1", x -> x.property(0, -1, s, 0));
            classes(1).refuses("letter 26", x -> x.property(0, 26, s, 0));
            classes(1).refuses("the least letter", x -> x.property(0, LEAST, s, 0));
            classes(1).refuses("the most letter", x -> x.property(0, MOST, s, 0));
        }
        for (int letter = 0; letter < 26; letter++) {
            int l = letter;
            Scene given = classes(1).then(x -> x.property(0, l, INT, 0)).then(x -> x.make(0));
            given.takes("the letter " + l, x -> x.put(0, l, 1));
            given.refuses("the letter before " + l, x -> x.put(0, l - 1, 1));
            given.refuses("the letter behind " + l, x -> x.put(0, l + 1, 1));
        }
    }

    private static void sorts() {
        for (int sort = INT; sort <= LINK; sort++) {
            int s = sort;
            classes(1).takes("sort " + s, x -> x.property(0, 0, s, 0));
            classes(1).keeps("sort " + s, x -> x.property(0, 0, s, 0), Look.Part.BYTES, Look.Part.OBJECTS);
        }
        classes(1).refuses("sort -1", x -> x.property(0, 0, -1, 0));
        classes(1).refuses("sort 4", x -> x.property(0, 0, 4, 0));
        classes(1).refuses("the least sort", x -> x.property(0, 0, LEAST, 0));
        classes(1).refuses("the most sort", x -> x.property(0, 0, MOST, 0));
    }

    private static void targets() {
        for (int count = 1; count <= 6; count++) {
            int last = count - 1;
            classes(count).takes("the first", x -> x.property(last, 0, LINK, 0));
            classes(count).takes("the last", x -> x.property(0, 0, LINK, last));
            classes(count).refuses("NONE", x -> x.property(0, 0, LINK, NONE));
            classes(count).refuses("behind the last", x -> x.property(0, 0, LINK, last + 1));
        }
        classes(6).refuses("below NONE", x -> x.property(0, 0, LINK, -2));
        classes(6).refuses("the least", x -> x.property(0, 0, LINK, LEAST));
        classes(6).refuses("the most", x -> x.property(0, 0, LINK, MOST));
    }

    private static void targetOfNoLink() {
        for (int sort = INT; sort <= FLAG; sort++) {
            int s = sort;
            for (int target : new int[] {LEAST, -2, NONE, 0, 1, 6, MOST}) {
                classes(1).takes("sort " + s + " with target " + target, x -> x.property(0, 0, s, target));
            }
        }
    }

    private static void lettersOfClass() {
        for (int sort = INT; sort <= LINK; sort++) {
            int s = sort;
            flags(1).refuses("its own, sort " + s, x -> x.property(0, 0, s, 0));
            flags(1).takes("another, sort " + s, x -> x.property(0, 1, s, 0));
        }
        for (int owner = 0; owner < 6; owner++) {
            int o = owner;
            Scene given = line(6).then(x -> x.property(o, 9, INT, 0));
            for (int cls = o; cls < 6; cls++) {
                int c = cls;
                given.refuses("that of class " + o + " for class " + c, x -> x.property(c, 9, INT, 0));
                given.takes("another for class " + c, x -> x.property(c, 8, INT, 0));
            }
        }
    }

    private static void lettersOfChildren() {
        for (int owner = 1; owner < 6; owner++) {
            int o = owner;
            Scene given = line(6).then(x -> x.property(o, 9, LINK, 0));
            for (int cls = 0; cls < o; cls++) {
                int c = cls;
                given.refuses("that of class " + o + " for class " + c, x -> x.property(c, 9, LINK, 0));
                given.takes("another for class " + c, x -> x.property(c, 10, LINK, 0));
            }
        }
        Scene forked = line(2).then(x -> x.define(0)).then(x -> x.property(2, 3, INT, 0));
        forked.refuses("that of the second child", x -> x.property(0, 3, INT, 0));
    }

    private static void lettersOfOthers() {
        Scene forked = line(2).then(x -> x.define(0)).then(x -> x.property(1, 3, INT, 0));
        forked.takes("that of a sibling", x -> x.property(2, 3, INT, 0));
        forked.then(x -> x.define(2)).takes("that of the parent's sibling", x -> x.property(3, 3, INT, 0));
        forked.then(x -> x.define(NONE)).takes("that of a stranger", x -> x.property(3, 3, INT, 0));
        Scene later = flags(1).then(x -> x.define(0));
        later.refuses("that of a parent given before the child was", x -> x.property(1, 0, INT, 0));
        later.takes("another", x -> x.property(1, 1, INT, 0));
    }

    private static void eightProperties() {
        flags(7).takes("the eighth", x -> x.property(0, 7, INT, 0));
        for (int sort = INT; sort <= LINK; sort++) {
            int s = sort;
            flags(8).refuses("the ninth, sort " + s, x -> x.property(0, 8, s, 0));
        }
        Scene seven = flags(7).then(x -> x.define(NONE));
        seven.takes("the eighth in another class", x -> x.property(1, 0, INT, 0));
        Scene eight = seven.then(x -> x.property(1, 0, INT, 0));
        eight.refuses("the ninth in the first class", x -> x.property(0, 7, INT, 0));
        eight.refuses("the ninth in the other class", x -> x.property(1, 1, INT, 0));
        eight.then(x -> x.make(1)).takes("the eighth is there", x -> x.put(0, 0, 9));
        eight.then(x -> x.drop()).refuses("the ninth after drop", x -> x.property(1, 1, INT, 0));
        Scene spread = classes(6).then(x -> {
            for (int i = 0; i < 8; i++) {
                x.property(i % 6, i, LONG, 0);
            }
        });
        for (int cls = 0; cls < 6; cls++) {
            int c = cls;
            spread.refuses("the ninth in class " + c, x -> x.property(c, 25, INT, 0));
        }
        flags(7).then(x -> x.property(0, 26, INT, 0)).takes("a refused one is not counted",
            x -> x.property(0, 7, INT, 0));
    }

    private static void propertyWithObjects() {
        Scene one = flags(1).then(x -> x.make(0));
        one.refuses("with one object", x -> x.property(0, 1, INT, 0));
        one.then(x -> x.drop()).takes("after drop", x -> x.property(0, 1, INT, 0));
        flags(1).then(x -> x.make(1)).takes("after a make that is refused", x -> x.property(0, 1, INT, 0));
        Scene bytes = flags(1).withBytes(5, 0, 0, 0, 0);
        bytes.takes("with bytes", x -> x.property(0, 1, INT, 0));
        bytes.then(x -> x.decode(0)).refuses("with an object from bytes", x -> x.property(0, 1, INT, 0));
    }
}
