import java.util.ArrayList;
import java.util.Arrays;
import java.util.Collections;
import java.util.HashMap;
import java.util.HashSet;
import java.util.List;
import java.util.Map;
import java.util.Random;
import java.util.Set;
import java.util.TreeMap;

/** Runs of calls by a fixed seed, each answer held against a second program written from the document's words. */
public final class ModelTest {
    private static final int RUNS = 6000;
    private static final int MOST_CALLS = 512;
    private static final int NONE = -1;

    // The second program: lists, trees and exceptions where the program has rows and places.

    private static final class Property {
        int owner;
        int letter;
        int sort;
        int target;
    }

    private static final class Thing {
        int cls;
        Map<Integer, Long> values = new HashMap<>();
        Map<Integer, Thing> links = new HashMap<>();
    }

    private static final class Element {
        int type;
        List<Integer> name;
        List<Integer> content;
        Node inner;
    }

    private static final class Node {
        List<Element> elements = new ArrayList<>();
        int meant;
        Thing thing;
    }

    private static final class Refusal extends RuntimeException {
        private static final long serialVersionUID = 1;
        final int answer;

        Refusal(int answer) {
            super(null, null, false, false);
            this.answer = answer;
        }
    }

    private static final class Model {
        final List<Integer> parents = new ArrayList<>();
        final List<Property> properties = new ArrayList<>();
        List<Thing> things = new ArrayList<>();
        List<Integer> bytes = new ArrayList<>();

        boolean isClass(int cls) {
            return 0 <= cls && cls < parents.size();
        }

        /** The ancestor farthest away first, the class itself last. */
        List<Integer> line(int cls) {
            List<Integer> line = new ArrayList<>();
            for (int at = cls; at != NONE; at = parents.get(at)) {
                line.add(0, at);
            }
            return line;
        }

        List<Property> of(int cls) {
            List<Property> of = new ArrayList<>();
            for (int owner : line(cls)) {
                properties.stream().filter(p -> p.owner == owner).forEach(of::add);
            }
            return of;
        }

        int define(int parent) {
            if (parent != NONE && !isClass(parent) || parents.size() == 6 || !things.isEmpty()) {
                return NONE;
            }
            parents.add(parent);
            return parents.size() - 1;
        }

        boolean property(int cls, int letter, int sort, int target) {
            if (!isClass(cls) || letter < 0 || letter > 25 || sort < 0 || sort > 3 || sort == 3 && !isClass(target)
                || properties.size() == 8 || !things.isEmpty()) {
                return false;
            }
            for (int other = 0; other < parents.size(); other++) {
                if (line(other).contains(cls) && of(other).stream().anyMatch(p -> p.letter == letter)) {
                    return false;
                }
            }
            Property property = new Property();
            property.owner = cls;
            property.letter = letter;
            property.sort = sort;
            property.target = target;
            properties.add(property);
            return true;
        }

        Thing add(int cls) {
            Thing thing = new Thing();
            thing.cls = cls;
            things.add(thing);
            return thing;
        }

        int make(int cls) {
            if (!isClass(cls) || things.size() == 12) {
                return NONE;
            }
            return things.indexOf(add(cls));
        }

        Thing thing(int number) {
            return 0 <= number && number < things.size() ? things.get(number) : null;
        }

        Property find(int number, int letter) {
            Thing thing = thing(number);
            return thing == null ? null
                : of(thing.cls).stream().filter(p -> p.letter == letter).findFirst().orElse(null);
        }

        boolean put(int number, int letter, long value) {
            Property p = find(number, letter);
            if (p == null || p.sort == 3 || p.sort == 2 && value != 0 && value != 1
                || p.sort == 0 && (value < Integer.MIN_VALUE || value > Integer.MAX_VALUE)) {
                return false;
            }
            thing(number).values.put(letter, value);
            return true;
        }

        boolean link(int number, int letter, int other) {
            Property p = find(number, letter);
            if (p == null || p.sort != 3) {
                return false;
            }
            if (other == NONE) {
                thing(number).links.remove(letter);
                return true;
            }
            if (thing(other) == null || !line(thing(other).cls).contains(p.target)) {
                return false;
            }
            thing(number).links.put(letter, thing(other));
            return true;
        }

        long value(int number, int letter) {
            return thing(number) == null ? 0 : thing(number).values.getOrDefault(letter, 0L);
        }

        int linked(int number, int letter) {
            return thing(number) == null ? NONE : things.indexOf(thing(number).links.get(letter));
        }

        int classOf(int number) {
            return thing(number) == null ? NONE : thing(number).cls;
        }

        int encode(int number, int cls) {
            if (thing(number) == null || !isClass(cls) || !line(classOf(number)).contains(cls)) {
                return NONE;
            }
            try {
                List<Integer> document = document(thing(number), cls, 1);
                bytes = new ArrayList<>(document);
                return bytes.size();
            } catch (Refusal refusal) {
                return refusal.answer;
            }
        }

        List<Integer> document(Thing thing, int cls, int depth) {
            if (depth > 5) {
                throw new Refusal(PropertyDocuments.TOO_BIG);
            }
            List<Integer> body = new ArrayList<>();
            if (thing.cls != cls) {
                body.addAll(mark(thing.cls));
            }
            for (Property p : of(thing.cls)) {
                Thing other = thing.links.get(p.letter);
                int[] types = {16, 18, 8, other == null ? 10 : 3};
                body.addAll(List.of(types[p.sort], 97 + p.letter, 0));
                if (p.sort < 3) {
                    int[] lengths = {4, 8, 1};
                    body.addAll(number(thing.values.getOrDefault(p.letter, 0L), lengths[p.sort]));
                } else if (other != null) {
                    body.addAll(document(other, p.target, depth + 1));
                }
            }
            List<Integer> whole = wrap(body);
            if (whole.size() > 120) {
                throw new Refusal(PropertyDocuments.TOO_BIG);
            }
            return whole;
        }

        /** Cuts each document out by its number in front and reads what lies between. */
        Node parse(List<Integer> document, int depth) {
            if (depth > 5 || document.size() < 5 || read(document.subList(0, 4)) != document.size()
                || document.get(document.size() - 1) != 0) {
                throw new Refusal(PropertyDocuments.NOT_SOUND);
            }
            Node node = new Node();
            List<Integer> rest = document.subList(4, document.size() - 1);
            while (!rest.isEmpty()) {
                Element element = new Element();
                element.type = rest.get(0);
                int end = rest.indexOf(0);
                if (end < 1) {
                    throw new Refusal(PropertyDocuments.NOT_SOUND);
                }
                element.name = rest.subList(1, end);
                dueText(element.name);
                rest = rest.subList(end + 1, rest.size());
                int length = contentLength(element.type, rest);
                if (length < 0 || length > rest.size()) {
                    throw new Refusal(PropertyDocuments.NOT_SOUND);
                }
                element.content = rest.subList(0, length);
                rest = rest.subList(length, rest.size());
                checkContent(element, depth);
                node.elements.add(element);
            }
            return node;
        }

        void dueText(List<Integer> text) {
            if (text.stream().anyMatch(b -> b < 1 || b > 127)) {
                throw new Refusal(PropertyDocuments.NOT_SOUND);
            }
        }

        int contentLength(int type, List<Integer> rest) {
            boolean hasNumber = rest.size() >= 4;
            switch (type) {
                case 2:
                    return hasNumber && read(rest.subList(0, 4)) >= 1
                        ? (int) Math.min(1000, 4 + read(rest.subList(0, 4))) : -1;
                case 3:
                    return hasNumber ? (int) Math.min(1000, read(rest.subList(0, 4))) : -1;
                case 8:
                    return 1;
                case 10:
                    return 0;
                case 16:
                    return 4;
                case 18:
                    return 8;
                default:
                    return -1;
            }
        }

        void checkContent(Element element, int depth) {
            int last = element.content.size() - 1;
            if (element.type == 2) {
                dueText(element.content.subList(4, last));
            }
            if (element.type == 2 && element.content.get(last) != 0
                || element.type == 8 && element.content.get(0) > 1) {
                throw new Refusal(PropertyDocuments.NOT_SOUND);
            }
            if (element.type == 3) {
                element.inner = parse(element.content, depth + 1);
            }
        }

        Node parseOrNull() {
            try {
                return parse(bytes, 1);
            } catch (Refusal refusal) {
                return null;
            }
        }

        int depth(Node node) {
            int most = 0;
            for (Element e : node.elements) {
                most = Math.max(most, e.inner == null ? 0 : depth(e.inner));
            }
            return most + 1;
        }

        int elements(Node node) {
            int sum = node.elements.size();
            for (Element e : node.elements) {
                sum += e.inner == null ? 0 : elements(e.inner);
            }
            return sum;
        }

        void fit(Node node, int cls) {
            node.meant = cls;
            Set<List<Integer>> names = new HashSet<>();
            for (Element e : node.elements) {
                require(names.add(e.name));
                if (e.name.equals(List.of(95, 116))) {
                    require(e.type == 2 && e.content.size() == 6 && isClass(e.content.get(4) - 65));
                    node.meant = e.content.get(4) - 65;
                    require(line(node.meant).contains(cls));
                }
            }
            for (Element e : node.elements) {
                if (!e.name.equals(List.of(95, 116))) {
                    Property p = named(e, node.meant);
                    require(p != null);
                    List<List<Integer>> types = List.of(List.of(16), List.of(16, 18), List.of(8), List.of(3, 10));
                    require(types.get(p.sort).contains(e.type));
                    if (e.inner != null) {
                        fit(e.inner, p.target);
                    }
                }
            }
        }

        void require(boolean holds) {
            if (!holds) {
                throw new Refusal(PropertyDocuments.NOT_FITTING);
            }
        }

        Property named(Element e, int cls) {
            return of(cls).stream().filter(p -> e.name.equals(List.of(97 + p.letter))).findFirst().orElse(null);
        }

        void makeThings(Node node) {
            if (things.size() == 12) {
                throw new Refusal(PropertyDocuments.FULL);
            }
            node.thing = add(node.meant);
            for (Element e : node.elements) {
                Property p = named(e, node.meant);
                if (e.inner != null) {
                    makeThings(e.inner);
                    node.thing.links.put(p.letter, e.inner.thing);
                } else if (p != null && p.sort != 3) {
                    long number = read(e.content);
                    node.thing.values.put(p.letter, number);
                }
            }
        }

        int decode(int cls) {
            List<Thing> before = new ArrayList<>(things);
            try {
                if (!isClass(cls)) {
                    return NONE;
                }
                Node node = parse(bytes, 1);
                fit(node, cls);
                makeThings(node);
                return before.size();
            } catch (Refusal refusal) {
                things = before;
                return refusal.answer;
            }
        }

        boolean poke(int place, int value) {
            if (place < 0 || place > bytes.size() || place == 120 || value < 0 || value > 255) {
                return false;
            }
            if (place == bytes.size()) {
                bytes.add(value);
            } else {
                bytes.set(place, value);
            }
            return true;
        }

        boolean cut(int count) {
            if (count < 0 || count > bytes.size()) {
                return false;
            }
            bytes = new ArrayList<>(bytes.subList(0, count));
            return true;
        }
    }

    private static List<Integer> number(long value, int length) {
        List<Integer> number = new ArrayList<>();
        for (int i = 0; i < length; i++) {
            number.add((int) Math.floorMod(value, 256L));
            value = Math.floorDiv(value, 256L);
        }
        return number;
    }

    /** Two's complement by its definition; a byte alone, which is a flag, has no sign. */
    private static long read(List<Integer> number) {
        long value = 0;
        long weight = 1;
        for (int b : number) {
            value += b * weight;
            weight *= 256;
        }
        return number.size() == 4 && value >= 1L << 31 ? value - (1L << 32) : value;
    }

    private static List<Integer> wrap(List<Integer> body) {
        List<Integer> whole = number(body.size() + 5, 4);
        whole.addAll(body);
        whole.add(0);
        return whole;
    }

    private static List<Integer> mark(int cls) {
        return List.of(2, 95, 116, 0, 2, 0, 0, 0, 65 + cls, 0);
    }

    // The runs.

    private static final class Run {
        final Random random;
        final PropertyDocuments x = new PropertyDocuments();
        final Model m = new Model();
        final List<String> calls = new ArrayList<>();
        boolean right = true;

        Run(long seed) {
            random = new Random(seed);
        }

        boolean goesOn() {
            return right && calls.size() < MOST_CALLS;
        }

        void due(String call, long got, long want) {
            // Nothing is promised of later calls.
            if (goesOn() && got != want) {
                right = false;
                calls.forEach(System.out::println);
                System.out.println(call + " answered " + got + ", due is " + want);
            }
            calls.add(call + " answered " + got);
        }

        void due(String call, boolean got, boolean want) {
            due(call, got ? 1 : 0, want ? 1 : 0);
        }

        boolean chance(int ofHundred) {
            return random.nextInt(100) < ofHundred;
        }

        /** Mostly below the bound, now and then at it or beyond. */
        int near(int bound) {
            if (chance(94) && bound > 0) {
                return random.nextInt(bound);
            }
            int[] odd = {-1, -2, bound, bound + 1, Integer.MIN_VALUE, Integer.MAX_VALUE};
            return odd[random.nextInt(odd.length)];
        }

        int letter() {
            if (chance(92) && !m.properties.isEmpty()) {
                return m.properties.get(random.nextInt(m.properties.size())).letter;
            }
            return near(26);
        }

        void define() {
            int parent = chance(30) ? NONE : near(m.parents.size());
            due("define(" + parent + ")", x.define(parent), m.define(parent));
        }

        void property() {
            int cls = near(m.parents.size());
            int letter = chance(90) ? random.nextInt(7) : near(26);
            int sort = chance(45) ? 3 : near(4);
            int target = near(m.parents.size());
            due("property(" + cls + ", " + letter + ", " + sort + ", " + target + ")",
                x.property(cls, letter, sort, target), m.property(cls, letter, sort, target));
        }

        void make() {
            int cls = near(m.parents.size());
            due("make(" + cls + ")", x.make(cls), m.make(cls));
        }

        void put() {
            int object = near(m.things.size());
            int letter = letter();
            long[] values = {0, 1, 2, -1, 255, 256, Integer.MAX_VALUE, Integer.MIN_VALUE, Integer.MAX_VALUE + 1L,
                Integer.MIN_VALUE - 1L, Long.MAX_VALUE, Long.MIN_VALUE, random.nextInt(), random.nextLong()};
            long value = values[random.nextInt(values.length)];
            due("put(" + object + ", " + letter + ", " + value + ")",
                x.put(object, letter, value), m.put(object, letter, value));
            read(object, letter);
        }

        void link() {
            int object = near(m.things.size());
            int letter = letter();
            int other = chance(20) ? NONE : near(m.things.size());
            due("link(" + object + ", " + letter + ", " + other + ")",
                x.link(object, letter, other), m.link(object, letter, other));
            read(object, letter);
        }

        void read(int object, int letter) {
            due("value(" + object + ", " + letter + ")", x.value(object, letter), m.value(object, letter));
            due("linked(" + object + ", " + letter + ")", x.linked(object, letter), m.linked(object, letter));
            due("classOf(" + object + ")", x.classOf(object), m.classOf(object));
        }

        void look() {
            due("objects()", x.objects(), m.things.size());
            due("size()", x.size(), m.bytes.size());
            int place = near(m.bytes.size());
            boolean inside = 0 <= place && place < m.bytes.size();
            due("byteAt(" + place + ")", x.byteAt(place), inside ? m.bytes.get(place) : NONE);
            Node node = m.parseOrNull();
            due("sound()", x.sound(), node != null);
            due("depth()", x.depth(), node == null ? 0 : m.depth(node));
            due("elements()", x.elements(), node == null ? 0 : m.elements(node));
        }

        void lookAtBytes() {
            due("size()", x.size(), m.bytes.size());
            for (int i = 0; i < m.bytes.size(); i++) {
                due("byteAt(" + i + ")", x.byteAt(i), m.bytes.get(i));
            }
        }

        void lookAtThings(int first) {
            due("objects()", x.objects(), m.things.size());
            for (int i = first; i < m.things.size(); i++) {
                for (Property p : m.of(m.classOf(i))) {
                    read(i, p.letter);
                }
            }
        }

        void encode() {
            int object = near(m.things.size());
            int cls = near(m.parents.size());
            if (chance(85) && m.thing(object) != null) {
                List<Integer> line = m.line(m.classOf(object));
                cls = line.get(random.nextInt(line.size()));
            }
            int answer = m.encode(object, cls);
            due("encode(" + object + ", " + cls + ")", x.encode(object, cls), answer);
            seen("encode", answer);
            if (chance(30)) {
                lookAtBytes();
            }
        }

        void decode(int cls) {
            int first = m.things.size();
            int answer = m.decode(cls);
            due("decode(" + cls + ")", x.decode(cls), answer);
            seen("decode", answer);
            seen("objects made by a decode", answer < 0 ? 0 : m.things.size() - first);
            lookAtThings(first);
            if (chance(10)) {
                lookAtBytes();
            }
        }

        void poke(int place, int value) {
            due("poke(" + place + ", " + value + ")", x.poke(place, value), m.poke(place, value));
        }

        void pokeSomewhere() {
            int place = near(m.bytes.size() + 1);
            int[] values = {0, 1, 2, 3, 5, 8, 10, 16, 18, 65, 66, 95, 97, 98, 116, 127, 128, 255, near(256)};
            poke(place, values[random.nextInt(values.length)]);
        }

        void pokeNearby() {
            if (!m.bytes.isEmpty()) {
                int place = random.nextInt(m.bytes.size());
                poke(place, m.bytes.get(place) + (chance(50) ? 1 : -1));
            }
        }

        void cut() {
            int count = chance(60) ? m.bytes.size() - random.nextInt(3) : near(m.bytes.size() + 1);
            due("cut(" + count + ")", x.cut(count), m.cut(count));
        }

        void drop() {
            calls.add("drop()");
            x.drop();
            m.things.clear();
        }

        /** Puts bytes into the buffer that are a document, one that fits or nearly does. */
        void write() {
            if (m.parents.isEmpty()) {
                return;
            }
            int cls = random.nextInt(m.parents.size());
            List<Integer> document = written(cls, 1, chance(50) ? 0 : 6);
            if (document.size() > 120) {
                return;
            }
            due("cut(0)", x.cut(0), m.cut(0));
            for (int i = 0; i < document.size() && goesOn(); i++) {
                poke(i, document.get(i));
            }
            if (chance(20)) {
                pokeNearby();
            }
            if (chance(50)) {
                drop();
            }
            decode(cls);
            look();
        }

        List<Integer> written(int cls, int depth, int faults) {
            List<Integer> kinds = new ArrayList<>();
            for (int kind = 0; kind < m.parents.size(); kind++) {
                if (m.line(kind).contains(cls) || chance(faults)) {
                    kinds.add(kind);
                }
            }
            int meant = kinds.get(random.nextInt(kinds.size()));
            List<List<Integer>> parts = new ArrayList<>();
            if (meant != cls || chance(20)) {
                parts.add(mark(meant));
            }
            for (Property p : m.of(meant)) {
                if (chance(70)) {
                    parts.add(element(p, depth, faults));
                }
            }
            if (chance(faults) && !parts.isEmpty()) {
                parts.add(parts.get(random.nextInt(parts.size())));
            }
            if (chance(faults)) {
                parts.add(oddElement());
            }
            if (chance(50)) {
                Collections.shuffle(parts, random);
            }
            List<Integer> body = new ArrayList<>();
            parts.forEach(body::addAll);
            return wrap(body);
        }

        List<Integer> element(Property p, int depth, int faults) {
            int[] types = {16, chance(50) ? 18 : 16, 8, depth < 6 && chance(55) ? 3 : 10};
            int[] all = {2, 3, 8, 10, 16, 18};
            int type = chance(faults) ? all[random.nextInt(all.length)] : types[p.sort];
            List<Integer> element = new ArrayList<>(List.of(type, 97 + p.letter, 0));
            if (type == 3) {
                int target = p.sort == 3 ? p.target : 0;
                element.addAll(depth < 6 ? written(target, depth + 1, faults) : wrap(List.of()));
            } else {
                element.addAll(content(type));
            }
            return element;
        }

        List<Integer> content(int type) {
            switch (type) {
                case 2:
                    return List.of(2, 0, 0, 0, 65 + random.nextInt(6), 0);
                case 8:
                    return List.of(random.nextInt(2));
                case 16:
                    return number(random.nextInt(), 4);
                case 18:
                    return number(random.nextLong(), 8);
                default:
                    return List.of();
            }
        }

        List<Integer> oddElement() {
            List<List<Integer>> odd = Arrays.asList(List.of(10, 0), List.of(10, 97, 97, 0), List.of(10, 95, 116, 0),
                List.of(2, 95, 116, 0, 1, 0, 0, 0, 0), List.of(2, 95, 116, 0, 3, 0, 0, 0, 65, 66, 0),
                List.of(2, 95, 117, 0, 2, 0, 0, 0, 65, 0), List.of(8, 97, 0, 2), List.of(9, 97, 0),
                List.of(10, 128, 0), List.of(2, 97, 0, 0, 0, 0, 0), List.of(3, 97, 0, 6, 0, 0, 0, 0));
            return odd.get(random.nextInt(odd.size()));
        }

        void describe() {
            for (int i = random.nextInt(9); i > 0; i--) {
                define();
            }
            for (int i = random.nextInt(14); i > 0; i--) {
                property();
            }
        }

        void step() {
            int dice = random.nextInt(100);
            if (dice < 3) {
                define();
            } else if (dice < 8) {
                property();
            } else if (dice < 20) {
                make();
            } else if (dice < 34) {
                put();
            } else if (dice < 54) {
                link();
            } else if (dice < 66) {
                encode();
            } else if (dice < 74) {
                decode(near(m.parents.size()));
            } else if (dice < 80) {
                write();
            } else if (dice < 85) {
                pokeSomewhere();
            } else if (dice < 89) {
                pokeNearby();
            } else if (dice < 91) {
                cut();
            } else if (dice < 94) {
                drop();
            } else {
                look();
            }
        }

        boolean isRight() {
            describe();
            while (goesOn()) {
                step();
            }
            return right;
        }
    }

    private static final Map<String, Integer> SEEN = new TreeMap<>();

    private static void seen(String what, int answer) {
        String key = what + ": " + (answer > 4 ? "more" : Integer.toString(answer));
        SEEN.merge(key, 1, Integer::sum);
    }

    /** A run that never meets an answer proves nothing about it. */
    private static boolean allMet() {
        boolean all = true;
        List<String> due = List.of("encode: -2", "encode: -1", "encode: more", "decode: -5", "decode: -4",
            "decode: -3", "decode: -1", "decode: 0", "decode: more", "objects made by a decode: 4",
            "objects made by a decode: more");
        for (String key : due) {
            if (SEEN.getOrDefault(key, 0) < 100) {
                System.out.println("met too seldom: " + key + " in " + SEEN);
                all = false;
            }
        }
        return all;
    }

    public static void main(String[] args) {
        boolean right = true;
        for (int seed = 0; seed < RUNS && right; seed++) {
            right = new Run(seed).isRight();
        }
        right = right && allMet();
        System.out.println(right ? "all runs are as due" : "a run is not as due");
        if (!right) {
            System.exit(1);
        }
    }
}
