import java.util.ArrayList;
import java.util.Arrays;
import java.util.List;
import java.util.function.Consumer;

/** A state, told by the calls that lead to it on a new object. Every check is made on objects of its own. */
final class Scene {
    /** A call that answers a number. */
    interface Call {
        long on(PropertyDocuments x);
    }

    /** A call that answers yes or no. */
    interface Ask {
        boolean on(PropertyDocuments x);
    }

    private final Consumer<PropertyDocuments> way;
    private List<long[]> seen = null;

    private Scene(Consumer<PropertyDocuments> way) {
        this.way = way;
    }

    static Scene fresh() {
        return new Scene(x -> { });
    }

    Scene then(Consumer<PropertyDocuments> more) {
        return new Scene(way.andThen(more));
    }

    Scene withBytes(int... bytes) {
        return then(x -> {
            x.cut(0);
            for (int i = 0; i < bytes.length; i++) {
                Due.equal("poke of the test itself at " + i, x.poke(i, bytes[i]) ? 1 : 0, 1);
            }
        });
    }

    PropertyDocuments object() {
        PropertyDocuments x = new PropertyDocuments();
        way.accept(x);
        return x;
    }

    /** For a call that is taken. */
    void takes(String what, Ask call) {
        Due.equal(what, call.on(object()) ? 1 : 0, 1);
    }

    /** For a call that is taken and answers a number. */
    void answers(String what, Call call, long want) {
        Due.equal(what, call.on(object()), want);
    }

    /** For a call that is refused: it changes nothing. */
    void refuses(String what, Ask call) {
        tells(what, x -> call.on(x) ? 1 : 0, 0);
    }

    /** For a call that is refused with that answer: it changes nothing. */
    void refuses(String what, Call call, long want) {
        tells(what, call, want);
    }

    /** For a call that only tells something: it changes nothing. */
    void tells(String what, Call call, long want) {
        Due.equal(what, call.on(object()), want);
        keeps(what, call::on, Look.Part.values());
    }

    void tells(String what, Ask call, boolean want) {
        tells(what, x -> call.on(x) ? 1 : 0, want ? 1 : 0);
    }

    /** For a call after which those parts are what they were. */
    void keeps(String what, Consumer<PropertyDocuments> call, Look.Part... parts) {
        List<long[]> before = seen();
        for (int i = 0; i < before.size(); i++) {
            Look look = Look.ALL.get(i);
            if (Arrays.asList(parts).contains(look.part())) {
                PropertyDocuments x = object();
                call.accept(x);
                dueSame(what + " changed " + look.name(), look.view().apply(x), before.get(i));
            }
        }
    }

    private List<long[]> seen() {
        if (seen == null) {
            seen = new ArrayList<>();
            for (Look look : Look.ALL) {
                seen.add(look.view().apply(object()));
            }
        }
        return seen;
    }

    private static void dueSame(String what, long[] got, long[] want) {
        int at = Arrays.mismatch(got, want);
        if (at >= 0) {
            Due.fault(what + ": at " + at + " is " + got[at] + ", was " + want[at]);
        }
    }

    void dueBytes(String what, int... want) {
        PropertyDocuments x = object();
        Due.equal(what + ": size", x.size(), want.length);
        for (int i = 0; i < want.length; i++) {
            Due.equal(what + ": byte " + i, x.byteAt(i), want[i]);
        }
    }
}
