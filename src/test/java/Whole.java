import java.util.ArrayList;
import java.util.List;

/** All that can be seen of an object: cells outside of its table, slots and saved states, too. */
final class Whole {
    private Whole() {
    }

    /** Each part is told by an object of its own, as telling it takes calls that change the object. */
    static List<List<Long>> of(Made.Maker maker) {
        List<List<Long>> all = new ArrayList<>();
        LeastRows x = maker.make();
        all.add(List.of(x.digest(), (long) x.firstError(), (long) x.clearBuffer()));
        all.add(now(x));
        all.addAll(slots(maker));
        all.addAll(saved(maker));
        return all;
    }

    /** What a snapshot holds; the saved states may lose their oldest one by it. */
    static List<Long> now(LeastRows x) {
        List<Long> seen = new ArrayList<>();
        for (int what = 0; what <= 7; what++) {
            seen.add((long) x.count(what));
        }
        for (int i = 0; i < x.count(2); i++) {
            seen.add((long) x.weight(i));
        }
        x.size(10, 10);
        for (int row = 0; row < 10; row++) {
            for (int column = 0; column < 10; column++) {
                seen.add((long) x.cell(row, column));
            }
        }
        x.undo();
        return seen;
    }

    static List<List<Long>> slots(Made.Maker maker) {
        List<List<Long>> all = new ArrayList<>();
        for (int slot = 0; slot <= 1; slot++) {
            LeastRows x = maker.make();
            List<Long> held;
            try {
                x.goBack(slot);
                held = now(x);
            } catch (IllegalStateException e) {
                held = List.of();
            }
            all.add(held);
        }
        return all;
    }

    /** The saved states, the latest one first. */
    static List<List<Long>> saved(Made.Maker maker) {
        List<List<Long>> all = new ArrayList<>();
        int count = maker.make().count(8);
        for (int undone = 1; undone <= count; undone++) {
            LeastRows x = maker.make();
            for (int i = 0; i < undone; i++) {
                x.undo();
            }
            all.add(now(x));
        }
        return all;
    }
}
