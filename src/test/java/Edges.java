import java.util.ArrayList;
import java.util.HashMap;
import java.util.List;
import java.util.Map;

/** What the tests of the document's sentences share. */
final class Edges {
    interface Act {
        void on(LeastRows x);
    }

    interface ActWith {
        void on(LeastRows x, int argument);
    }

    static final Class<IllegalArgumentException> ARGUMENT = IllegalArgumentException.class;
    static final Class<IllegalStateException> STATE = IllegalStateException.class;
    static final Class<IndexOutOfBoundsException> INDEX = IndexOutOfBoundsException.class;

    private static final Map<Made.Maker, List<List<Long>>> WHOLES = new HashMap<>();

    private final Document document;
    private String section = "";

    Edges(Document document) {
        this.document = document;
    }

    void section(String heading) {
        section = heading;
    }

    /** The test of one sentence: it is told by words that stand in it. */
    void test(String words, Check.Call test) {
        Check.begin(section + ": \"" + words + "\"");
        Check.holds("no sentence of the document has these words", document.quote(section, words));
        try {
            test.run();
        } catch (RuntimeException e) {
            Check.fail("threw " + e + " at " + e.getStackTrace()[0] + ", " + e.getStackTrace()[1]);
        }
        Check.begin("");
    }

    private static List<List<Long>> wholeOf(Made.Maker maker) {
        return WHOLES.computeIfAbsent(maker, Whole::of);
    }

    private static Made.Maker[] orAll(Made.Maker[] makers) {
        return makers.length == 0 ? Made.all() : makers;
    }

    /** Just beyond both ends, far beyond them, and where 10 times as much wraps around to 4 and to 6. */
    static int[] outside(int least, int most) {
        return new int[] {least - 1, most + 1, Integer.MIN_VALUE, Integer.MAX_VALUE, 429496730, -429496729};
    }

    /** The call is refused by just this exception, in each of these objects, and changes nothing at all. */
    static void refused(String call, Class<? extends RuntimeException> due, Act act, Made.Maker... makers) {
        for (Made.Maker maker : orAll(makers)) {
            String name = call + " of the object " + Made.name(maker);
            Check.throwsJust(name, due, () -> act.on(maker.make()));
            Check.holds(name + " is refused, but changes something",
                Whole.of(() -> tried(maker, act)).equals(wholeOf(maker)));
        }
    }

    private static LeastRows tried(Made.Maker maker, Act act) {
        LeastRows x = maker.make();
        try {
            act.on(x);
        } catch (RuntimeException e) {
            // What it throws is looked at where it is called alone.
            return x;
        }
        return x;
    }

    /** The argument is taken at both its ends, and refused beyond them. */
    static void range(String call, int least, int most, Class<? extends RuntimeException> due, ActWith act,
            Made.Maker... makers) {
        for (Made.Maker maker : orAll(makers)) {
            act.on(maker.make(), least);
            act.on(maker.make(), most);
        }
        for (int bad : outside(least, most)) {
            refused(call + " with " + bad, due, x -> act.on(x, bad), makers);
        }
    }

    /** The call changes nothing, saves nothing, and counts no looks. */
    static void onlyAsks(String call, Act act, Made.Maker... makers) {
        for (Made.Maker maker : orAll(makers)) {
            Made.Maker asked = () -> {
                LeastRows x = maker.make();
                act.on(x);
                return x;
            };
            Check.holds(call + " changes something of the object " + Made.name(maker),
                Whole.of(asked).equals(wholeOf(maker)));
        }
    }

    /** The call changes the buffer at most: neither what a snapshot holds nor the slots nor the saved states. */
    static void onlyBuffer(String call, Act act, Made.Maker... makers) {
        for (Made.Maker maker : orAll(makers)) {
            List<List<Long>> due = wholeOf(maker);
            List<List<Long>> got = Whole.of(() -> tried(maker, act));
            Check.holds(call + " changes more than the buffer of the object " + Made.name(maker),
                got.subList(1, got.size()).equals(due.subList(1, due.size())));
        }
    }

    /** The call saves the state from before it, on top of the others, of which the oldest may be dropped. */
    static void undoable(String call, Act act, Made.Maker... makers) {
        for (Made.Maker maker : orAll(makers)) {
            String name = call + " of the object " + Made.name(maker);
            Made.Maker changed = () -> {
                LeastRows x = maker.make();
                act.on(x);
                return x;
            };
            List<List<Long>> due = new ArrayList<>(Whole.saved(maker));
            due.add(0, Whole.now(maker.make()));
            if (due.size() > 6) {
                due.remove(6);
            }
            Check.holds(name + ": the saved states are not as due", Whole.saved(changed).equals(due));
            Check.holds(name + ": a slot is changed", Whole.slots(changed).equals(Whole.slots(maker)));
            LeastRows x = changed.make();
            Check.equal(name + ", then count(8)", x.count(8), due.size());
            Check.equal(name + ", then undo()", x.undo(), due.size() - 1);
        }
    }
}
