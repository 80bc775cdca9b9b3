import static written.Documents.aLong;
import static written.Documents.anInt;
import static written.Documents.b;
import static written.Documents.doc;
import static written.Documents.flag;
import static written.Documents.inner;
import static written.Documents.int32;
import static written.Documents.join;
import static written.Documents.mark;
import static written.Documents.nested;
import static written.Documents.nothing;
import static written.Documents.text;
import static written.Documents.times;

import java.util.Arrays;

/** The boundary cases of promises 14 to 20 and of the terms about the buffer, documents and elements. */
public final class BufferBoundaryTest {
    private static final int NONE = PropertyDocuments.NONE;
    private static final int LEAST = Integer.MIN_VALUE;
    private static final int MOST = Integer.MAX_VALUE;

    public static void main(String[] args) {
        Due.test("all of them together are one document", BufferBoundaryTest::oneDocument);
        Due.test("14: no bytes", BufferBoundaryTest::noBytes);
        Due.test("the number of all bytes of the document", BufferBoundaryTest::documentNumbers);
        Due.test("the number of an inner document", BufferBoundaryTest::innerNumbers);
        Due.test("any number of elements", BufferBoundaryTest::elementNumbers);
        Due.test("a byte 0 at the end of a document", BufferBoundaryTest::documentEnds);
        Due.test("There are no other types", BufferBoundaryTest::types);
        Due.test("its name, any number (also none) of bytes", BufferBoundaryTest::nameLengths);
        Due.test("a name of bytes 1 .. 127", BufferBoundaryTest::nameBytes);
        Due.test("a byte 0 behind the name", BufferBoundaryTest::nameEnds);
        Due.test("an INT32 n of at least 1", BufferBoundaryTest::textNumbers);
        Due.test("n - 1 bytes", BufferBoundaryTest::textLengths);
        Due.test("a text of bytes 1 .. 127", BufferBoundaryTest::textBytes);
        Due.test("a byte 0 behind the text", BufferBoundaryTest::textEnds);
        Due.test("for type 3 a document", BufferBoundaryTest::innerDocuments);
        Due.test("for type 8 one byte, 0 or 1", BufferBoundaryTest::flags);
        Due.test("for type 10 nothing", BufferBoundaryTest::nothings);
        Due.test("for type 16 an INT32", BufferBoundaryTest::ints);
        Due.test("for type 18 an INT64", BufferBoundaryTest::longs);
        Due.test("no document has a depth above 5", BufferBoundaryTest::depthAbove5);
        Due.test("15: The greatest depth of a document", BufferBoundaryTest::greatestDepth);
        Due.test("15: 0 when they are not sound", BufferBoundaryTest::depthNotSound);
        Due.test("16: those of documents that are contents counted too", BufferBoundaryTest::elementsCounted);
        Due.test("16: 0 when they are not sound", BufferBoundaryTest::elementsNotSound);
        Due.test("at most 120 bytes; 17: The number of bytes", BufferBoundaryTest::sizes);
        Due.test("18: NONE when there is none", BufferBoundaryTest::places);
        Due.test("bytes 0 .. 255; 19: value is not 0 .. 255", BufferBoundaryTest::pokeValues);
        Due.test("19: place is not 0 .. size()", BufferBoundaryTest::pokePlaces);
        Due.test("19: at the place size() it is added at the end", BufferBoundaryTest::pokeAtEnd);
        Due.test("19: or place is 120", BufferBoundaryTest::poke120);
        Due.test("20: count is not 0 .. size()", BufferBoundaryTest::cutCounts);
        Due.test("20: Only the first bytes, so many, stay", BufferBoundaryTest::cutStays);
        Due.end();
    }

    /** A class with a property of each sort, and one object of it. */
    private static Scene described() {
        return Scene.fresh().then(x -> {
            x.define(NONE);
            for (int sort = 0; sort < 4; sort++) {
                x.property(0, sort, sort, 0);
            }
            x.make(0);
            x.put(0, 0, 9);
            x.link(0, 3, 0);
        });
    }

    private static Scene ofSize(int size) {
        int[] bytes = new int[size];
        for (int i = 0; i < size; i++) {
            bytes[i] = (i + 1) % 256;
        }
        return described().withBytes(bytes);
    }

    private static void dueSound(String what, int depth, int elements, int[] bytes) {
        Scene filled = described().withBytes(bytes);
        filled.tells(what + ": sound", x -> x.sound(), true);
        filled.tells(what + ": depth", x -> x.depth(), depth);
        filled.tells(what + ": elements", x -> x.elements(), elements);
    }

    private static void dueUnsound(String what, int[] bytes) {
        Scene filled = described().withBytes(bytes);
        filled.tells(what + ": sound", x -> x.sound(), false);
        filled.tells(what + ": depth", x -> x.depth(), 0);
        filled.tells(what + ": elements", x -> x.elements(), 0);
        filled.refuses(what + ": decode", x -> x.decode(0), PropertyDocuments.NOT_SOUND);
    }

    private static void dueSoundIf(boolean sound, String what, int[] bytes) {
        if (sound) {
            dueSound(what, 1, 1, bytes);
        } else {
            dueUnsound(what, bytes);
        }
    }

    private static void oneDocument() {
        int[] whole = doc(mark(0), anInt(0, 1), inner(3, doc(aLong(1, 1), flag(2, 1))), nothing(3));
        dueSound("the whole", 2, 6, whole);
        for (int count = 0; count < whole.length; count++) {
            dueUnsound("the first " + count, Arrays.copyOf(whole, count));
        }
        for (int more : new int[] {0, 1, 2, 5, 10, 127, 128, 255}) {
            dueUnsound("and a byte " + more, join(whole, b(more)));
        }
        dueUnsound("two documents", join(doc(), doc()));
        dueUnsound("two documents that are counted as one", b(10, 0, 0, 0, 0, 5, 0, 0, 0, 0));
        dueUnsound("a byte before", join(b(0), doc()));
    }

    private static void noBytes() {
        dueUnsound("none", b());
        dueUnsound("one", b(0));
        dueUnsound("four", b(5, 0, 0, 0));
        dueUnsound("four that count themselves", b(4, 0, 0, 0));
        dueSound("five", 1, 0, b(5, 0, 0, 0, 0));
        described().withBytes(doc()).then(x -> x.cut(0)).tells("all cut away", x -> x.sound(), false);
    }

    private static void documentNumbers() {
        int[] longest = join(b(10), times(113, 127), b(0));
        int[][] bodies = {b(), nothing(0), anInt(0, -1), longest};
        for (int[] body : bodies) {
            int size = body.length + 5;
            int elements = body.length == 0 ? 0 : 1;
            dueSound("number " + size, 1, elements, join(int32(size), body, b(0)));
            int[] others = {size - 1, size + 1, size - 4, size - 5, 0, -1, -size, size + 256, size + 65536,
                size + (1 << 24), size | LEAST, ~size, LEAST, MOST};
            for (int number : others) {
                dueUnsound("number " + number + " of " + size, join(int32(number), body, b(0)));
            }
        }
    }

    private static void innerNumbers() {
        dueSound("5", 2, 1, doc(b(3, 97, 0), int32(5), b(0)));
        for (int number : new int[] {0, 1, 4, 6, 13, -1, -5, 261, LEAST, LEAST + 5, MOST}) {
            dueUnsound("number " + number, doc(b(3, 97, 0), int32(number), b(0)));
        }
        dueUnsound("6 with a byte more", doc(b(3, 97, 0), int32(6), b(0, 0)));
        dueUnsound("one of the outer's bytes", join(int32(12), b(3, 97, 0), int32(6), b(0)));
    }

    private static void elementNumbers() {
        for (int count = 0; count <= 57; count++) {
            dueSound(count + " elements", 1, count, doc(times(count, 10, 0)));
        }
        dueUnsound("58 elements and no end", join(int32(120), times(58, 10, 0)));
        dueSound("120 bytes", 1, 57, doc(times(56, 10, 0), b(10, 1, 0)));
        dueSound("two of one name", 1, 2, doc(nothing(0), nothing(0)));
    }

    private static void documentEnds() {
        dueSound("0", 1, 0, b(5, 0, 0, 0, 0));
        for (int end = 1; end < 256; end++) {
            dueUnsound("end " + end, b(5, 0, 0, 0, end));
            dueUnsound("end " + end + " behind an element", b(8, 0, 0, 0, 10, 97, 0, end));
        }
        dueUnsound("none inside", doc(b(3, 97, 0), int32(4)));
        dueUnsound("one for two documents", join(int32(12), b(3, 97, 0), int32(5), b(0)));
    }

    private static void types() {
        int[][] contents = {b(), b(0), b(1), text(), text(65), doc(), times(4, 1), times(8, 1), int32(1)};
        dueSound("type 2", 1, 1, doc(b(2, 97, 0), text(65)));
        dueSound("type 3", 2, 1, doc(b(3, 97, 0), doc()));
        dueSound("type 8", 1, 1, doc(b(8, 97, 0, 1)));
        dueSound("type 10", 1, 1, doc(b(10, 97, 0)));
        dueSound("type 16", 1, 1, doc(b(16, 97, 0), times(4, 1)));
        dueSound("type 18", 1, 1, doc(b(18, 97, 0), times(8, 1)));
        for (int type = 0; type < 256; type++) {
            boolean isKnown = type == 2 || type == 3 || type == 8 || type == 10 || type == 16 || type == 18;
            for (int i = 0; i < contents.length && !isKnown; i++) {
                dueUnsound("type " + type + " with content " + i, doc(b(type, 97, 0), contents[i]));
            }
        }
        dueUnsound("another type inside", doc(inner(0, doc(b(9, 97, 0)))));
    }

    private static void nameLengths() {
        for (int length = 0; length <= 113; length++) {
            dueSound("a name of " + length, 1, 1, doc(b(10), times(length, 97), b(0)));
        }
        dueSound("none for type 2", 1, 1, doc(b(2, 0), text()));
        dueSound("none for type 3", 2, 1, doc(b(3, 0), doc()));
        dueSound("none for type 8", 1, 1, doc(b(8, 0, 0)));
        dueSound("none for type 16", 1, 1, doc(b(16, 0), int32(0)));
        dueSound("none for type 18", 1, 1, doc(b(18, 0), times(8, 0)));
    }

    private static void nameBytes() {
        for (int name = 0; name < 256; name++) {
            boolean sound = name >= 1 && name <= 127;
            dueSoundIf(sound, "a name " + name, doc(b(10, name, 0)));
            dueSoundIf(sound, "a name that ends with " + name, doc(b(10, 97, name, 0)));
            dueSoundIf(sound, "a name that begins with " + name, doc(b(10, name, 97, 0)));
        }
    }

    private static void nameEnds() {
        dueUnsound("none", b(7, 0, 0, 0, 10, 97, 97));
        dueUnsound("none but that of the document", b(7, 0, 0, 0, 10, 97, 0));
        dueUnsound("none in 120 bytes", join(int32(120), b(10), times(115, 97)));
        dueUnsound("the name's end, but not the document's", join(int32(120), b(10), times(114, 97), b(0)));
        dueUnsound("no name", b(5, 0, 0, 0, 10));
    }

    private static void textNumbers() {
        dueSound("n is 1", 1, 1, doc(b(2, 97, 0), int32(1), b(0)));
        for (int n : new int[] {0, -1, 2, -2, LEAST, LEAST + 1, MOST, 257, 65537, 1 + (1 << 24)}) {
            dueUnsound("n is " + n + " and no byte", doc(b(2, 97, 0), int32(n), b(0)));
        }
        dueUnsound("n is 0 and nothing", doc(b(2, 97, 0), int32(0)));
        dueUnsound("n cut off", b(10, 0, 0, 0, 2, 97, 0, 1, 0, 0));
        dueUnsound("n in the last four bytes", b(11, 0, 0, 0, 2, 97, 0, 1, 0, 0, 0));
        dueUnsound("n and its end in the last five", b(12, 0, 0, 0, 2, 97, 0, 1, 0, 0, 0, 0));
    }

    private static void textLengths() {
        for (int length = 0; length <= 108; length++) {
            dueSound("a text of " + length, 1, 1, doc(b(2, 0), text(times(length, 97))));
        }
        for (int length = 0; length < 5; length++) {
            for (int off = -2; off <= 2; off++) {
                int[] bytes = doc(b(2, 0), int32(length + 1 + off), times(length, 97), b(0));
                dueSoundIf(off == 0, "a text of " + length + " and n off by " + off, bytes);
            }
        }
        dueSound("a text and more", 1, 2, doc(b(2, 0), text(97), nothing(0)));
    }

    private static void textBytes() {
        for (int said = 0; said < 256; said++) {
            boolean sound = said >= 1 && said <= 127;
            dueSoundIf(sound, "a text " + said, doc(b(2, 0), text(said)));
            dueSoundIf(sound, "a text that ends with " + said, doc(b(2, 0), text(97, said)));
            dueSoundIf(sound, "a text that begins with " + said, doc(b(2, 0), text(said, 97)));
        }
    }

    private static void textEnds() {
        for (int end = 0; end < 256; end++) {
            dueSoundIf(end == 0, "end " + end, doc(b(2, 0), int32(2), b(97, end)));
        }
        dueUnsound("one for text and document", b(12, 0, 0, 0, 2, 0, 2, 0, 0, 0, 97, 0));
        dueUnsound("none in 120 bytes", join(int32(120), b(2, 0), int32(111), times(110, 97)));
    }

    private static void innerDocuments() {
        dueSound("a document", 2, 1, doc(inner(0, doc())));
        dueSound("a document with an element", 2, 2, doc(inner(0, doc(nothing(0)))));
        dueUnsound("nothing", doc(b(3, 97, 0)));
        dueUnsound("a document cut off", doc(b(3, 97, 0, 5, 0, 0, 0)));
        dueUnsound("a number cut off", doc(b(3, 97, 0, 5, 0, 0)));
        dueSound("fourteen documents inside one", 2, 14, doc(times(14, inner(0, doc()))));
        dueSound("sixteen without names", 2, 16, doc(times(16, join(b(3, 0), doc()))));
    }

    private static void flags() {
        for (int value = 0; value < 256; value++) {
            dueSoundIf(value < 2, "a flag " + value, doc(flag(0, value)));
        }
        dueUnsound("none", doc(b(8, 97, 0)));
        dueUnsound("one for flag and document", b(8, 0, 0, 0, 8, 97, 0, 0));
        dueUnsound("two bytes", doc(b(8, 97, 0, 0, 0)));
    }

    private static void nothings() {
        dueSound("nothing", 1, 1, doc(nothing(0)));
        for (int more = 0; more < 256; more++) {
            dueUnsound("a byte " + more, doc(b(10, 97, 0, more)));
        }
    }

    private static void ints() {
        for (int value = 0; value < 256; value++) {
            dueSound("four bytes " + value, 1, 1, doc(b(16, 97, 0), times(4, value)));
        }
        for (int count : new int[] {0, 1, 2, 3, 5}) {
            dueUnsound(count + " bytes", doc(b(16, 97, 0), times(count, 0)));
            dueUnsound(count + " bytes 255", doc(b(16, 97, 0), times(count, 255)));
        }
    }

    private static void longs() {
        for (int value = 0; value < 256; value++) {
            dueSound("eight bytes " + value, 1, 1, doc(b(18, 97, 0), times(8, value)));
        }
        for (int count : new int[] {0, 1, 4, 6, 7, 9}) {
            dueUnsound(count + " bytes", doc(b(18, 97, 0), times(count, 0)));
            dueUnsound(count + " bytes 255", doc(b(18, 97, 0), times(count, 255)));
        }
    }

    private static void depthAbove5() {
        for (int depth = 1; depth <= 5; depth++) {
            dueSound("depth " + depth, depth, depth - 1, nested(depth));
        }
        for (int depth = 6; depth <= 15; depth++) {
            dueUnsound("depth " + depth, nested(depth));
        }
        dueSound("depth 5 behind depth 5", 5, 8, doc(inner(0, nested(4)), inner(0, nested(4))));
        dueUnsound("depth 6 behind depth 2", doc(inner(0, doc()), inner(0, nested(5))));
        dueUnsound("depth 2 behind depth 6", doc(inner(0, nested(5)), inner(0, doc())));
        dueUnsound("depth 6 behind depth 5", doc(inner(0, nested(4)), inner(0, nested(5))));
    }

    private static void greatestDepth() {
        for (int first = 1; first <= 4; first++) {
            for (int second = 1; second <= 4; second++) {
                int[] bytes = doc(inner(0, nested(first)), inner(1, nested(second)));
                dueSound("depths " + first + " and " + second, 1 + Math.max(first, second), first + second, bytes);
            }
        }
        Scene deep = described().withBytes(nested(4));
        deep.then(x -> x.depth()).withBytes(doc()).tells("after a deeper one", x -> x.depth(), 1);
    }

    private static void depthNotSound() {
        described().tells("no bytes", x -> x.depth(), 0);
        described().withBytes(doc()).tells("sound", x -> x.depth(), 1);
        described().withBytes(join(nested(3), b(0))).tells("a byte more", x -> x.depth(), 0);
        described().withBytes(nested(3)).then(x -> x.cut(x.size() - 1)).tells("a byte less", x -> x.depth(), 0);
        described().withBytes(nested(5)).tells("depth 5", x -> x.depth(), 5);
        described().withBytes(nested(6)).tells("depth 6", x -> x.depth(), 0);
    }

    private static void elementsCounted() {
        described().withBytes(doc()).tells("none", x -> x.elements(), 0);
        described().withBytes(doc(inner(0, doc()))).tells("one with none inside", x -> x.elements(), 1);
        int[] inside = doc(inner(0, doc(flag(0, 1), flag(0, 1))), mark(0), inner(0, doc(nothing(0))));
        described().withBytes(inside).tells("three, two and one", x -> x.elements(), 6);
        described().withBytes(inside).then(x -> x.elements()).tells("asked again", x -> x.elements(), 6);
    }

    private static void elementsNotSound() {
        described().tells("no bytes", x -> x.elements(), 0);
        int[] two = doc(nothing(0), nothing(1));
        described().withBytes(two).tells("sound", x -> x.elements(), 2);
        described().withBytes(join(two, b(0))).tells("a byte more", x -> x.elements(), 0);
        described().withBytes(two).then(x -> x.cut(x.size() - 1)).tells("a byte less", x -> x.elements(), 0);
        described().withBytes(nested(6)).tells("depth 6", x -> x.elements(), 0);
    }

    private static void sizes() {
        for (int size = 0; size <= 120; size++) {
            ofSize(size).answers("size", x -> x.size(), size);
        }
        ofSize(0).tells("empty", x -> x.size(), 0);
        ofSize(120).tells("full", x -> x.size(), 120);
        ofSize(120).then(x -> x.poke(120, 1)).tells("after a poke that is refused", x -> x.size(), 120);
        ofSize(119).then(x -> x.poke(119, 1)).tells("after the last poke", x -> x.size(), 120);
        ofSize(7).then(x -> x.poke(6, 1)).tells("after a poke inside", x -> x.size(), 7);
    }

    private static void places() {
        for (int size : new int[] {0, 1, 2, 60, 119, 120}) {
            ofSize(size).tells("before the first of " + size, x -> x.byteAt(-1), NONE);
            ofSize(size).tells("behind the last of " + size, x -> x.byteAt(size), NONE);
            ofSize(size).tells("two behind the last of " + size, x -> x.byteAt(size + 1), NONE);
            ofSize(size).tells("the least of " + size, x -> x.byteAt(LEAST), NONE);
            ofSize(size).tells("the most of " + size, x -> x.byteAt(MOST), NONE);
            if (size > 0) {
                ofSize(size).tells("the first of " + size, x -> x.byteAt(0), 1);
                ofSize(size).tells("the last of " + size, x -> x.byteAt(size - 1), size);
                ofSize(size).then(x -> x.cut(size - 1)).tells("the last, cut away", x -> x.byteAt(size - 1), NONE);
            }
        }
    }

    private static void pokeValues() {
        for (int place = 0; place <= 2; place++) {
            int p = place;
            for (int value = 0; value < 256; value++) {
                int v = value;
                ofSize(2).takes("value " + v + " at " + p, x -> x.poke(p, v));
                ofSize(2).then(x -> x.poke(p, v)).answers("what was poked", x -> x.byteAt(p), v);
            }
            for (int value : new int[] {LEAST, -256, -255, -1, 256, 257, 65536, MOST}) {
                ofSize(2).refuses("value " + value + " at " + p, x -> x.poke(p, value));
            }
        }
    }

    private static void pokePlaces() {
        for (int size = 0; size < 120; size++) {
            int s = size;
            ofSize(s).takes("the first of " + s, x -> x.poke(0, 200));
            ofSize(s).takes("behind the last of " + s, x -> x.poke(s, 200));
            ofSize(s).refuses("before the first of " + s, x -> x.poke(-1, 200));
            ofSize(s).refuses("two behind the last of " + s, x -> x.poke(s + 1, 200));
        }
        for (int place : new int[] {LEAST, -2, 9, 119, 120, 121, MOST}) {
            ofSize(7).refuses("place " + place, x -> x.poke(place, 200));
        }
        ofSize(3).then(x -> x.poke(1, 200)).dueBytes("in the middle", 1, 200, 3);
        ofSize(3).then(x -> x.poke(2, 200)).dueBytes("at the last", 1, 2, 200);
        ofSize(3).keeps("poke", x -> x.poke(1, 200), Look.Part.OBJECTS, Look.Part.DESCRIPTION);
    }

    private static void pokeAtEnd() {
        ofSize(0).then(x -> x.poke(0, 200)).dueBytes("of none", 200);
        ofSize(3).then(x -> x.poke(3, 0)).dueBytes("of three", 1, 2, 3, 0);
        ofSize(119).then(x -> x.poke(119, 200)).answers("of 119", x -> x.byteAt(119), 200);
        ofSize(3).keeps("poke", x -> x.poke(3, 200), Look.Part.OBJECTS, Look.Part.DESCRIPTION);
    }

    private static void poke120() {
        ofSize(120).refuses("place 120 of 120", x -> x.poke(120, 200));
        ofSize(120).refuses("place 120 of 120, value 0", x -> x.poke(120, 0));
        ofSize(120).refuses("place 121 of 120", x -> x.poke(121, 200));
        ofSize(119).refuses("place 120 of 119", x -> x.poke(120, 200));
        ofSize(119).takes("place 119 of 119", x -> x.poke(119, 200));
        ofSize(120).takes("place 119 of 120", x -> x.poke(119, 200));
        ofSize(120).takes("place 0 of 120", x -> x.poke(0, 200));
        ofSize(120).refuses("place -1 of 120", x -> x.poke(-1, 200));
        ofSize(120).then(x -> x.poke(119, 200)).answers("the last has it", x -> x.byteAt(119), 200);
        ofSize(120).then(x -> x.cut(119)).takes("after cut", x -> x.poke(119, 200));
    }

    private static void cutCounts() {
        for (int size = 0; size <= 120; size++) {
            int s = size;
            ofSize(s).takes("0 of " + s, x -> x.cut(0));
            ofSize(s).takes("all of " + s, x -> x.cut(s));
            ofSize(s).refuses("-1 of " + s, x -> x.cut(-1));
            ofSize(s).refuses("one more than " + s, x -> x.cut(s + 1));
        }
        for (int count : new int[] {LEAST, -2, 9, 120, 121, MOST}) {
            ofSize(7).refuses("count " + count, x -> x.cut(count));
        }
    }

    private static void cutStays() {
        ofSize(4).then(x -> x.cut(4)).dueBytes("all", 1, 2, 3, 4);
        ofSize(4).then(x -> x.cut(3)).dueBytes("three", 1, 2, 3);
        ofSize(4).then(x -> x.cut(1)).dueBytes("one", 1);
        ofSize(4).then(x -> x.cut(0)).dueBytes("none");
        ofSize(4).then(x -> x.cut(2)).refuses("what is gone does not come back", x -> x.cut(3));
        ofSize(4).then(x -> x.cut(2)).then(x -> x.poke(2, 9)).dueBytes("added behind", 1, 2, 9);
        ofSize(120).then(x -> x.cut(120)).answers("all of 120", x -> x.size(), 120);
        ofSize(4).keeps("cut", x -> x.cut(2), Look.Part.OBJECTS, Look.Part.DESCRIPTION);
        ofSize(4).keeps("cut to what is there", x -> x.cut(4), Look.Part.values());
    }
}
