/** Writes objects of described classes into bytes and makes objects from such bytes again. */
public final class PropertyDocuments {
    public static final int NONE = -1;
    public static final int TOO_BIG = -2;
    public static final int NOT_SOUND = -3;
    public static final int NOT_FITTING = -4;
    public static final int FULL = -5;

    private static final int MOST_CLASSES = 6;
    private static final int MOST_PROPERTIES = 8;
    private static final int MOST_OBJECTS = 12;
    private static final int MOST_BYTES = 120;
    private static final int MOST_DEPTH = 5;

    private static final int LETTERS = 26;

    private static final int INT_SORT = 0;
    private static final int LONG_SORT = 1;
    private static final int FLAG_SORT = 2;
    private static final int LINK_SORT = 3;

    private static final int TEXT_TYPE = 2;
    private static final int DOCUMENT_TYPE = 3;
    private static final int FLAG_TYPE = 8;
    private static final int NOTHING_TYPE = 10;
    private static final int INT_TYPE = 16;
    private static final int LONG_TYPE = 18;

    private static final int INT_BYTES = 4;
    private static final int LONG_BYTES = 8;

    private static final int MARK_FIRST = 95;
    private static final int MARK_SECOND = 116;
    private static final int FIRST_CLASS_BYTE = 65;
    private static final int FIRST_LETTER_BYTE = 97;
    private static final int LAST_TEXT_BYTE = 127;

    private final Description description;
    private final Instances instances;
    private final Bytes buffer;
    private final Writer writer;
    private final Outline outline;
    private final Fitting fitting;

    public PropertyDocuments() {
        description = new Description();
        instances = new Instances();
        buffer = new Bytes();
        writer = new Writer(description, instances);
        outline = new Outline(buffer);
        fitting = new Fitting(description, buffer, outline);
    }

    public int define(int parent) {
        return instances.count > 0 ? NONE : description.addClass(parent);
    }

    public boolean property(int cls, int letter, int sort, int target) {
        return instances.count == 0 && description.addProperty(cls, letter, sort, target);
    }

    public int make(int cls) {
        return description.hasClass(cls) ? instances.add(cls) : NONE;
    }

    public boolean put(int object, int letter, long value) {
        int property = propertyOfObject(object, letter);
        if (!description.allowsValue(property, value)) {
            return false;
        }
        instances.setValue(object, property, value);
        return true;
    }

    public boolean link(int object, int letter, int other) {
        int property = propertyOfObject(object, letter);
        if (!description.isLink(property)) {
            return false;
        }
        if (other != NONE && !description.isKindOf(instances.kind(other), description.target(property))) {
            return false;
        }
        instances.setPartner(object, property, other);
        return true;
    }

    public long value(int object, int letter) {
        return instances.valueAt(object, propertyOfObject(object, letter));
    }

    public int linked(int object, int letter) {
        return instances.partnerAt(object, propertyOfObject(object, letter));
    }

    public int classOf(int object) {
        return instances.kind(object);
    }

    public int objects() {
        return instances.count;
    }

    public void drop() {
        instances.count = 0;
    }

    public int encode(int object, int cls) {
        if (!description.isKindOf(instances.kind(object), cls)) {
            return NONE;
        }
        if (!writer.write(object, cls)) {
            return TOO_BIG;
        }
        buffer.copyFrom(writer.draft);
        return buffer.count;
    }

    public int decode(int cls) {
        if (!description.hasClass(cls)) {
            return NONE;
        }
        if (!outline.read()) {
            return NOT_SOUND;
        }
        if (!fitting.fits(cls)) {
            return NOT_FITTING;
        }
        if (instances.count + outline.documentCount > MOST_OBJECTS) {
            return FULL;
        }
        return fitting.fill(instances);
    }

    public boolean sound() {
        return outline.read();
    }

    public int depth() {
        return outline.read() ? outline.deepest : 0;
    }

    public int elements() {
        return outline.read() ? outline.elementCount : 0;
    }

    public int size() {
        return buffer.count;
    }

    public int byteAt(int place) {
        return buffer.at(place);
    }

    public boolean poke(int place, int value) {
        if (value < 0 || value > 255) {
            return false;
        }
        return place == buffer.count ? buffer.add(value) : buffer.replace(place, value);
    }

    public boolean cut(int count) {
        if (count < 0 || count > buffer.count) {
            return false;
        }
        buffer.count = count;
        return true;
    }

    private int propertyOfObject(int object, int letter) {
        return description.propertyOf(instances.kind(object), letter);
    }

    /** The classes and the properties given to them. */
    private static final class Description {
        private final int[] parents = new int[MOST_CLASSES];
        private final int[] owners = new int[MOST_PROPERTIES];
        private final int[] letters = new int[MOST_PROPERTIES];
        private final int[] sorts = new int[MOST_PROPERTIES];
        private final int[] targets = new int[MOST_PROPERTIES];
        private int classCount = 0;
        private int propertyCount = 0;

        boolean hasClass(int cls) {
            return cls >= 0 && cls < classCount;
        }

        boolean hasProperty(int property) {
            return property >= 0 && property < propertyCount;
        }

        int addClass(int parent) {
            if (classCount >= MOST_CLASSES || (parent != NONE && !hasClass(parent))) {
                return NONE;
            }
            parents[classCount] = parent;
            classCount++;
            return classCount - 1;
        }

        boolean addProperty(int cls, int letter, int sort, int target) {
            if (propertyCount >= MOST_PROPERTIES || !hasClass(cls)) {
                return false;
            }
            if (letter < 0 || letter >= LETTERS || sort < INT_SORT || sort > LINK_SORT) {
                return false;
            }
            if ((sort == LINK_SORT && !hasClass(target)) || isTaken(cls, letter)) {
                return false;
            }
            owners[propertyCount] = cls;
            letters[propertyCount] = letter;
            sorts[propertyCount] = sort;
            targets[propertyCount] = target;
            propertyCount++;
            return true;
        }

        private boolean isTaken(int cls, int letter) {
            for (int p = 0; p < propertyCount; p++) {
                if (letters[p] == letter && (isKindOf(cls, owners[p]) || isKindOf(owners[p], cls))) {
                    return true;
                }
            }
            return false;
        }

        /** False also when one of the two is no class. */
        boolean isKindOf(int cls, int other) {
            int at = cls;
            for (int step = 0; step < MOST_CLASSES && hasClass(at); step++) {
                if (at == other) {
                    return true;
                }
                at = parents[at];
            }
            return false;
        }

        /** The place of the property in the order in which all were given, or NONE. */
        int propertyOf(int cls, int letter) {
            for (int p = 0; p < propertyCount; p++) {
                if (letters[p] == letter && isKindOf(cls, owners[p])) {
                    return p;
                }
            }
            return NONE;
        }

        boolean isOwn(int property, int cls) {
            return hasProperty(property) && owners[property] == cls;
        }

        int letter(int property) {
            return hasProperty(property) ? letters[property] : NONE;
        }

        int sort(int property) {
            return hasProperty(property) ? sorts[property] : NONE;
        }

        int target(int property) {
            return hasProperty(property) ? targets[property] : NONE;
        }

        boolean isLink(int property) {
            return sort(property) == LINK_SORT;
        }

        boolean allowsValue(int property, long value) {
            switch (sort(property)) {
                case INT_SORT:
                    return value == (int) value;
                case LONG_SORT:
                    return true;
                case FLAG_SORT:
                    return value == 0 || value == 1;
                default:
                    return false;
            }
        }

        boolean allowsType(int property, int type) {
            switch (sort(property)) {
                case INT_SORT:
                    return type == INT_TYPE;
                case LONG_SORT:
                    return type == LONG_TYPE || type == INT_TYPE;
                case FLAG_SORT:
                    return type == FLAG_TYPE;
                case LINK_SORT:
                    return type == NOTHING_TYPE || type == DOCUMENT_TYPE;
                default:
                    return false;
            }
        }
    }

    /** The objects, each with a cell for every property that was given, whether its class has it or not. */
    private static final class Instances {
        private final int[] kinds = new int[MOST_OBJECTS];
        private final long[] values = new long[MOST_OBJECTS * MOST_PROPERTIES];
        private final int[] partners = new int[MOST_OBJECTS * MOST_PROPERTIES];
        private int count = 0;

        boolean has(int object) {
            return object >= 0 && object < count;
        }

        int kind(int object) {
            return has(object) ? kinds[object] : NONE;
        }

        int add(int cls) {
            if (count >= MOST_OBJECTS) {
                return NONE;
            }
            int object = count;
            kinds[object] = cls;
            count++;
            // An object that was dropped may have left something in these cells.
            for (int p = 0; p < MOST_PROPERTIES; p++) {
                setValue(object, p, 0);
                setPartner(object, p, NONE);
            }
            return object;
        }

        private boolean hasCell(int object, int property) {
            return has(object) && property >= 0 && property < MOST_PROPERTIES;
        }

        private int cell(int object, int property) {
            return object * MOST_PROPERTIES + property;
        }

        /** 0 also where there is no cell, and for a LINK, whose value is never set. */
        long valueAt(int object, int property) {
            return hasCell(object, property) ? values[cell(object, property)] : 0;
        }

        /** NONE also where there is no cell, and for what is no LINK, whose partner is never set. */
        int partnerAt(int object, int property) {
            return hasCell(object, property) ? partners[cell(object, property)] : NONE;
        }

        void setValue(int object, int property, long value) {
            if (hasCell(object, property)) {
                values[cell(object, property)] = value;
            }
        }

        void setPartner(int object, int property, int other) {
            if (hasCell(object, property)) {
                partners[cell(object, property)] = other;
            }
        }
    }

    /** A row of bytes that grows at its end, up to the limit of the buffer. */
    private static final class Bytes {
        private final int[] row = new int[MOST_BYTES];
        private int count = 0;

        int at(int place) {
            return place >= 0 && place < count ? row[place] : NONE;
        }

        boolean add(int value) {
            if (count >= MOST_BYTES) {
                return false;
            }
            row[count] = value;
            count++;
            return true;
        }

        boolean replace(int place, int value) {
            if (place < 0 || place >= count) {
                return false;
            }
            row[place] = value;
            return true;
        }

        boolean addNumber(long number, int length) {
            boolean added = true;
            for (int i = 0; i < length && added; i++) {
                added = add(lowByte(number, i));
            }
            return added;
        }

        void replaceNumber(int place, long number, int length) {
            for (int i = 0; i < length; i++) {
                replace(place + i, lowByte(number, i));
            }
        }

        private int lowByte(long number, int index) {
            return (int) (number >> (8 * index)) & 255;
        }

        boolean holds(int place, int length) {
            return place >= 0 && place <= count - length;
        }

        int intAt(int place) {
            int number = 0;
            for (int i = INT_BYTES - 1; i >= 0; i--) {
                number = (number << 8) | (at(place + i) & 255);
            }
            return number;
        }

        long longAt(int place) {
            long low = intAt(place) & 0xFFFFFFFFL;
            long high = intAt(place + INT_BYTES);
            return (high << 32) | low;
        }

        void copyFrom(Bytes other) {
            System.arraycopy(other.row, 0, row, 0, other.count);
            count = other.count;
        }
    }

    /** Writes the document of an object into a draft, so that one that grows too big leaves the buffer alone. */
    private static final class Writer {
        private final Description description;
        private final Instances instances;
        private final Bytes draft;

        Writer(Description description, Instances instances) {
            this.description = description;
            this.instances = instances;
            draft = new Bytes();
        }

        /** False when the document would be too big or too deep. */
        boolean write(int object, int cls) {
            draft.count = 0;
            return writeDocument(object, cls, 1);
        }

        private boolean writeDocument(int object, int cls, int depth) {
            int start = draft.count;
            int kind = instances.kind(object);
            boolean written = depth <= MOST_DEPTH && draft.addNumber(0, INT_BYTES)
                && (kind == cls || writeMark(kind));
            // A parent has a lower number than its children, so the farthest ancestor comes first.
            for (int owner = 0; owner <= kind && written; owner++) {
                written = !description.isKindOf(kind, owner) || writeOwnProperties(object, owner, depth);
            }
            if (!written || !draft.add(0)) {
                return false;
            }
            draft.replaceNumber(start, draft.count - start, INT_BYTES);
            return true;
        }

        private boolean writeMark(int cls) {
            return draft.add(TEXT_TYPE) && draft.add(MARK_FIRST) && draft.add(MARK_SECOND) && draft.add(0)
                && draft.addNumber(2, INT_BYTES) && draft.add(FIRST_CLASS_BYTE + cls) && draft.add(0);
        }

        private boolean writeOwnProperties(int object, int owner, int depth) {
            boolean written = true;
            for (int p = 0; p < MOST_PROPERTIES && written; p++) {
                written = !description.isOwn(p, owner) || writeProperty(object, p, depth);
            }
            return written;
        }

        private boolean writeProperty(int object, int property, int depth) {
            int letter = description.letter(property);
            long value = instances.valueAt(object, property);
            switch (description.sort(property)) {
                case INT_SORT:
                    return writeHead(INT_TYPE, letter) && draft.addNumber(value, INT_BYTES);
                case LONG_SORT:
                    return writeHead(LONG_TYPE, letter) && draft.addNumber(value, LONG_BYTES);
                case FLAG_SORT:
                    return writeHead(FLAG_TYPE, letter) && draft.addNumber(value, 1);
                default:
                    int partner = instances.partnerAt(object, property);
                    return writeLink(letter, partner, description.target(property), depth);
            }
        }

        private boolean writeLink(int letter, int partner, int target, int depth) {
            if (partner == NONE) {
                return writeHead(NOTHING_TYPE, letter);
            }
            return writeHead(DOCUMENT_TYPE, letter) && writeDocument(partner, target, depth + 1);
        }

        private boolean writeHead(int type, int letter) {
            return draft.add(type) && draft.add(FIRST_LETTER_BYTE + letter) && draft.add(0);
        }
    }

    /** The documents and elements that stand in the bytes, both in the order in which they begin. */
    private static final class Outline {
        // An element takes two bytes or more, and a document four before its first element.
        private static final int MOST_ELEMENTS = MOST_BYTES / 2;
        private static final int MOST_DOCUMENTS = MOST_BYTES / INT_BYTES;

        private final Bytes bytes;
        private final int[] types = new int[MOST_ELEMENTS];
        private final int[] names = new int[MOST_ELEMENTS];
        private final int[] contents = new int[MOST_ELEMENTS];
        private final int[] holders = new int[MOST_ELEMENTS];
        private final int[] inners = new int[MOST_ELEMENTS];
        private int elementCount = 0;
        private int documentCount = 0;
        private int deepest = 0;

        Outline(Bytes bytes) {
            this.bytes = bytes;
        }

        /** False when the bytes are not sound; what the outline tells then is of no use. */
        boolean read() {
            elementCount = 0;
            documentCount = 0;
            deepest = 0;
            return readDocument(0, 1) == bytes.count;
        }

        /** The place behind the document, or NONE when no document stands there. */
        private int readDocument(int start, int depth) {
            if (depth > MOST_DEPTH || documentCount >= MOST_DOCUMENTS || !bytes.holds(start, INT_BYTES)) {
                return NONE;
            }
            int document = documentCount;
            documentCount++;
            deepest = Math.max(deepest, depth);
            int place = start + INT_BYTES;
            // Behind an element that is none the place is NONE, where no byte is.
            for (int round = 0; round < MOST_BYTES && bytes.at(place) > 0; round++) {
                place = readElement(place, document, depth);
            }
            if (bytes.at(place) != 0 || bytes.intAt(start) != place + 1 - start) {
                return NONE;
            }
            return place + 1;
        }

        private int readElement(int start, int document, int depth) {
            int nameEnd = endOfText(start + 1);
            if (elementCount >= MOST_ELEMENTS || bytes.at(nameEnd) != 0) {
                return NONE;
            }
            int type = bytes.at(start);
            int content = nameEnd + 1;
            types[elementCount] = type;
            names[elementCount] = start + 1;
            contents[elementCount] = content;
            holders[elementCount] = document;
            inners[elementCount] = type == DOCUMENT_TYPE ? documentCount : NONE;
            elementCount++;
            return readContent(type, content, depth);
        }

        private int readContent(int type, int start, int depth) {
            switch (type) {
                case TEXT_TYPE:
                    return readText(start);
                case DOCUMENT_TYPE:
                    return readDocument(start, depth + 1);
                case FLAG_TYPE:
                    return bytes.at(start) == 0 || bytes.at(start) == 1 ? start + 1 : NONE;
                case NOTHING_TYPE:
                    return start;
                case INT_TYPE:
                    return bytes.holds(start, INT_BYTES) ? start + INT_BYTES : NONE;
                case LONG_TYPE:
                    return bytes.holds(start, LONG_BYTES) ? start + LONG_BYTES : NONE;
                default:
                    return NONE;
            }
        }

        private int readText(int start) {
            int first = start + INT_BYTES;
            int end = endOfText(first);
            boolean isText = bytes.at(end) == 0 && bytes.intAt(start) == end + 1 - first;
            return isText ? end + 1 : NONE;
        }

        /** The first place from start on that has no byte 1 .. 127. */
        private int endOfText(int start) {
            int end = start;
            for (int i = 0; i < MOST_BYTES && bytes.at(end) > 0 && bytes.at(end) <= LAST_TEXT_BYTE; i++) {
                end++;
            }
            return end;
        }

        private boolean hasElement(int element) {
            return element >= 0 && element < elementCount;
        }

        int type(int element) {
            return hasElement(element) ? types[element] : NONE;
        }

        int content(int element) {
            return hasElement(element) ? contents[element] : NONE;
        }

        /** The document that the element stands in. */
        int holder(int element) {
            return hasElement(element) ? holders[element] : NONE;
        }

        /** The document that is the element's content. */
        int inner(int element) {
            return hasElement(element) ? inners[element] : NONE;
        }

        boolean isMark(int element) {
            return nameByte(element, 0) == MARK_FIRST && nameByte(element, 1) == MARK_SECOND
                && nameByte(element, 2) == 0;
        }

        /** The letter that the name tells, which may be none of 0 .. 25, or NONE when it is not one byte long. */
        int letter(int element) {
            boolean isOneByte = nameByte(element, 0) > 0 && nameByte(element, 1) == 0;
            return isOneByte ? nameByte(element, 0) - FIRST_LETTER_BYTE : NONE;
        }

        private int nameByte(int element, int index) {
            return hasElement(element) ? bytes.at(names[element] + index) : NONE;
        }
    }

    /** Finds the class that each document of an outline means, and makes the objects. */
    private static final class Fitting {
        private final Description description;
        private final Bytes bytes;
        private final Outline outline;
        private final int[] wanted = new int[Outline.MOST_DOCUMENTS];
        private final int[] meant = new int[Outline.MOST_DOCUMENTS];

        Fitting(Description description, Bytes bytes, Outline outline) {
            this.description = description;
            this.bytes = bytes;
            this.outline = outline;
        }

        /** A document begins before those inside it, so the class wanted of it is known when its turn comes. */
        boolean fits(int cls) {
            wanted[0] = cls;
            boolean fitting = true;
            for (int d = 0; d < outline.documentCount && fitting; d++) {
                meant[d] = findMeant(d);
                fitting = meant[d] != NONE && elementsFit(d);
            }
            return fitting;
        }

        /** The class that the document means, or NONE when its marks do not fit. */
        private int findMeant(int document) {
            int cls = wanted[document];
            int marks = 0;
            for (int e = 0; e < outline.elementCount; e++) {
                if (outline.holder(e) == document && outline.isMark(e)) {
                    cls = markedClass(e);
                    marks++;
                }
            }
            return marks <= 1 && description.isKindOf(cls, wanted[document]) ? cls : NONE;
        }

        private int markedClass(int mark) {
            int content = outline.content(mark);
            boolean isOneByte = outline.type(mark) == TEXT_TYPE && bytes.intAt(content) == 2;
            return isOneByte ? bytes.at(content + INT_BYTES) - FIRST_CLASS_BYTE : NONE;
        }

        private boolean elementsFit(int document) {
            int seen = 0;
            for (int e = 0; e < outline.elementCount; e++) {
                if (outline.holder(e) == document && !outline.isMark(e)) {
                    int property = propertyFor(e);
                    if (!description.allowsType(property, outline.type(e)) || (seen & (1 << property)) != 0) {
                        return false;
                    }
                    seen |= 1 << property;
                    wantInside(e, property);
                }
            }
            return true;
        }

        private void wantInside(int element, int property) {
            int inner = outline.inner(element);
            if (inner >= 0 && inner < wanted.length) {
                wanted[inner] = description.target(property);
            }
        }

        private int propertyFor(int element) {
            int holder = outline.holder(element);
            boolean isHeld = holder >= 0 && holder < meant.length;
            return isHeld ? description.propertyOf(meant[holder], outline.letter(element)) : NONE;
        }

        /** Makes an object for each document, when all fit and there is room for them; answers the first. */
        int fill(Instances instances) {
            int first = instances.count;
            for (int d = 0; d < outline.documentCount; d++) {
                instances.add(meant[d]);
            }
            for (int e = 0; e < outline.elementCount; e++) {
                if (!outline.isMark(e)) {
                    fillProperty(instances, first, e);
                }
            }
            return first;
        }

        private void fillProperty(Instances instances, int first, int element) {
            int object = first + outline.holder(element);
            int property = propertyFor(element);
            if (!description.isLink(property)) {
                instances.setValue(object, property, numberIn(element));
            } else if (outline.inner(element) != NONE) {
                instances.setPartner(object, property, first + outline.inner(element));
            }
        }

        private long numberIn(int element) {
            int content = outline.content(element);
            switch (outline.type(element)) {
                case INT_TYPE:
                    return bytes.intAt(content);
                case LONG_TYPE:
                    return bytes.longAt(content);
                default:
                    return bytes.at(content);
            }
        }
    }
}
