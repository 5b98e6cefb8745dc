import java.util.ArrayList;
import java.util.List;

/** Snapshots, saved states, and what an exception leaves. */
final class UndoEdges {
    private final Edges edges;

    UndoEdges(Edges edges) {
        this.edges = edges;
    }

    void run() {
        snapshots();
        savedStates();
        exceptions();
        keep();
        goBack();
        undo();
    }

    private void snapshots() {
        edges.section("Snapshots, undo");
        edges.test("There are two slots", () -> {
            LeastRows x = Made.sized(2, 3);
            x.keep(0);
            x.size(5, 6);
            x.keep(1);
            x.size(7, 8);
            Check.equal("goBack(0)", x.goBack(0), 2);
            Check.equal("count(1)", x.count(1), 3);
            Check.equal("goBack(1)", x.goBack(1), 5);
            Check.equal("count(1)", x.count(1), 6);
        });
        edges.test("a snapshot is all but the buffer, the slots and the saved states", () -> {
            for (Made.Maker maker : Made.all()) {
                Made.Maker back = () -> {
                    LeastRows x = maker.make();
                    x.keep(0);
                    change(x);
                    x.goBack(0);
                    return x;
                };
                Check.holds("a snapshot is not all of " + Made.name(maker),
                    Whole.now(back.make()).equals(Whole.now(maker.make())));
            }
            LeastRows x = Made.FULL.make();
            x.clearBuffer();
            Made.type(x, "7");
            x.keep(1);
            x.goBack(0);
            Check.equal("count(8) behind goBack(0)", x.count(8), 6);
            Check.equal("clearBuffer() behind goBack(0)", x.clearBuffer(), 1);
            x.goBack(1);
            Check.equal("count(3) of the other slot", x.count(3), 1 + 9 * 95);
        });
    }

    /** Changes all that a snapshot holds. */
    private static void change(LeastRows x) {
        x.size(10, 10);
        x.points(1, 2, 3, 4);
        x.find(0);
        x.put(9, 9, 1234);
        x.put(0, 0, 4321);
        x.put(0, 1, 1);
        x.put(1, 0, 0);
        x.mend();
        if (x.count(2) < 10) {
            x.weigh(55);
        } else {
            x.unweigh();
        }
        x.size(6, 7);
    }

    private void savedStates() {
        edges.test("Each method that is marked \"undoable\" and does not throw an exception saves the state from "
            + "before it (also if it changes nothing)", () -> {
            Edges.undoable("size(4, 4)", x -> x.size(4, 4), Made.FRESH);
            Edges.undoable("put(0, 0, 0)", x -> x.put(0, 0, 0), Made.FRESH);
            Edges.undoable("points(0, 0, 0, 0)", x -> x.points(0, 0, 0, 0), Made.FRESH);
            Edges.undoable("mend()", x -> x.mend(), Made.FRESH);
            Edges.undoable("load()", x -> x.load(), () -> Made.type(Made.sized(1, 1), "0"));
            Edges.undoable("goBack(0)", x -> x.goBack(0), () -> {
                LeastRows x = new LeastRows();
                x.keep(0);
                return x;
            });
        });
        edges.test("all, also what is counted so far, but the buffer, the slots and the saved states", () -> {
            LeastRows x = Made.table("1,0/0,0");
            x.find(0);
            x.mend();
            x.undo();
            Check.equal("count(6)", x.count(6), 0);
            Check.equal("count(4)", x.count(4), 4);
            x.undo();
            Check.equal("count(4)", x.count(4), 0);
            Check.equal("count(5)", x.count(5), 0);
            LeastRows y = Made.sized(3, 3);
            y.keep(0);
            y.size(2, 2);
            y.keep(0);
            y.append('5');
            y.undo();
            Check.equal("clearBuffer()", y.clearBuffer(), 1);
            Check.equal("goBack(0)", y.goBack(0), 2);
        });
        edges.test("At most 6 states are saved; the oldest one is dropped first.", () -> {
            for (int calls = 0; calls <= 20; calls++) {
                LeastRows x = new LeastRows();
                for (int i = 1; i <= calls; i++) {
                    x.put(0, 0, i);
                }
                int saved = Math.min(calls, 6);
                Check.equal("count(8) of " + calls + " calls", x.count(8), saved);
                for (int left = saved - 1; left >= 0; left--) {
                    Check.equal("undo() of " + calls + " calls", x.undo(), left);
                    Check.equal("cell(0, 0) of " + calls + " calls", x.cell(0, 0), calls - saved + left);
                }
                Check.throwsJust("undo() of none left", Edges.STATE, () -> x.undo());
            }
        });
        edges.test("the oldest one is dropped first", () -> {
            // Saved and undone by turns, so that the oldest one is in each place of those that are kept.
            LeastRows x = new LeastRows();
            List<Integer> due = new ArrayList<>();
            for (int i = 1; i <= 60; i++) {
                due.add(x.cell(0, 0));
                x.put(0, 0, i);
                if (due.size() > 6) {
                    due.remove(0);
                }
                for (int k = 0; k < i % 4 - 1; k++) {
                    Check.equal("undo()", x.undo(), due.size() - 1);
                    Check.equal("cell(0, 0)", x.cell(0, 0), due.remove(due.size() - 1));
                }
            }
        });
    }

    private void exceptions() {
        edges.section("Exceptions");
        edges.test("A call that throws an exception changes nothing (the buffer stays as it is, too).", () -> {
            Edges.refused("size(11, 1)", Edges.ARGUMENT, x -> x.size(11, 1));
            Edges.refused("put(0, 0, 10000)", Edges.ARGUMENT, x -> x.put(0, 0, 10000));
            Edges.refused("points(0, 0, 0, 10)", Edges.ARGUMENT, x -> x.points(0, 0, 0, 10));
            Edges.refused("find(2)", Edges.STATE, x -> x.find(2), Made.BROKEN);
            Edges.refused("weigh(1)", Edges.STATE, x -> x.weigh(1), Made.FULL);
            Edges.refused("unweigh()", Edges.STATE, x -> x.unweigh(), Made.FRESH);
            Edges.refused("append(48)", Edges.STATE, x -> x.append(48), Made.FULL);
            Edges.refused("load()", Edges.ARGUMENT, x -> x.load(), Made.BUSY);
            Edges.refused("keep(2)", Edges.ARGUMENT, x -> x.keep(2));
            Edges.refused("goBack(0)", Edges.STATE, x -> x.goBack(0), Made.BUSY);
            Edges.refused("goBack(1)", Edges.STATE, x -> x.goBack(1), Made.BROKEN);
            Edges.refused("undo()", Edges.STATE, x -> x.undo(), Made.FRESH);
        });
        edges.test("If several exceptions apply, the one that is named first in the throws clause is thrown.", () -> {
            Edges.refused("put(10, 10, 10000)", Edges.INDEX, x -> x.put(10, 10, 10000));
            Edges.refused("find(3)", Edges.ARGUMENT, x -> x.find(3), Made.BROKEN);
            Edges.refused("weigh(100)", Edges.ARGUMENT, x -> x.weigh(100), Made.FULL);
            Edges.refused("append(127)", Edges.ARGUMENT, x -> x.append(127), Made.FULL);
            Edges.refused("goBack(2)", Edges.ARGUMENT, x -> x.goBack(2), Made.FRESH);
            Edges.refused("place(10, 3)", Edges.INDEX, x -> x.place(10, 3));
        });
    }

    private void keep() {
        edges.section("Promise 13: keep");
        edges.test("Takes a snapshot, in place of the one in the slot.", () -> {
            for (int slot = 0; slot <= 1; slot++) {
                int kept = slot;
                for (Made.Maker maker : Made.all()) {
                    Made.Maker keeping = () -> {
                        LeastRows x = maker.make();
                        x.keep(kept);
                        return x;
                    };
                    List<List<Long>> due = Whole.slots(maker);
                    due.set(kept, Whole.now(maker.make()));
                    Check.holds("the slots behind keep(" + kept + ")", Whole.slots(keeping).equals(due));
                    Check.holds("keep(" + kept + ") changes the saved states",
                        Whole.saved(keeping).equals(Whole.saved(maker)));
                    Check.holds("keep(" + kept + ") changes more than a slot",
                        Whole.now(keeping.make()).equals(Whole.now(maker.make())));
                    Check.equal("the length of the buffer", keeping.make().clearBuffer(), maker.make().clearBuffer());
                }
            }
        });
        edges.test("`slot`: 0 or 1", () ->
            Edges.range("keep(slot)", 0, 1, Edges.ARGUMENT, (x, slot) -> x.keep(slot)));
        edges.test("Returns how many rows the table has.", () -> {
            Check.equal("keep(0) of one row", Made.sized(1, 10).keep(0), 1);
            Check.equal("keep(1) of 10 rows", Made.sized(10, 1).keep(1), 10);
            LeastRows x = Made.sized(3, 4);
            x.keep(0);
            x.size(5, 6);
            Check.equal("keep(0) in place of one of 3 rows", x.keep(0), 5);
        });
        edges.test("Throws `IllegalArgumentException` if slot is out of range", () -> {
            Edges.refused("keep(-1)", Edges.ARGUMENT, x -> x.keep(-1));
            Edges.refused("keep(2)", Edges.ARGUMENT, x -> x.keep(2));
        });
    }

    private void goBack() {
        edges.section("Promise 14: goBack");
        edges.test("Goes back to a snapshot, which stays.", () -> {
            LeastRows x = Made.FULL.make();
            for (int i = 0; i < 8; i++) {
                change(x);
                x.goBack(i % 2);
                Check.equal("count(4)", x.count(4), i % 2 == 0 ? 0 : 100);
                Check.equal("cell(9, 9)", x.cell(9, 9), i % 2 == 0 ? 0 : 9999);
                Check.equal("cell(0, 0)", x.cell(0, 0), 0);
            }
        });
        edges.test("Undoable.", () -> {
            Edges.undoable("goBack(0)", x -> x.goBack(0), Made.BROKEN, Made.FULL);
            Edges.undoable("goBack(1)", x -> x.goBack(1), Made.BUSY, Made.FULL);
        });
        edges.test("`slot`: 0 or 1", () -> {
            Edges.range("goBack(slot)", 0, 1, Edges.ARGUMENT, (x, slot) -> x.goBack(slot), Made.FULL);
            for (int bad : Edges.outside(0, 1)) {
                Edges.refused("goBack(" + bad + ")", Edges.ARGUMENT, x -> x.goBack(bad));
            }
        });
        edges.test("Returns how many rows the table has then.", () -> {
            LeastRows x = Made.sized(1, 10);
            x.keep(0);
            x.size(10, 1);
            x.keep(1);
            Check.equal("goBack(0)", x.goBack(0), 1);
            Check.equal("goBack(1)", x.goBack(1), 10);
        });
        edges.test("Throws `IllegalArgumentException` if slot is out of range", () -> {
            // The exception that is named first, where there is no snapshot, too.
            Edges.refused("goBack(-1)", Edges.ARGUMENT, x -> x.goBack(-1), Made.FRESH);
            Edges.refused("goBack(2)", Edges.ARGUMENT, x -> x.goBack(2), Made.FRESH);
        });
        edges.test("Throws `IllegalStateException` if there is no snapshot in it", () -> {
            Edges.refused("goBack(0)", Edges.STATE, x -> x.goBack(0), Made.FRESH, Made.BUSY);
            Edges.refused("goBack(1)", Edges.STATE, x -> x.goBack(1), Made.FRESH, Made.BROKEN);
        });
    }

    private void undo() {
        edges.section("Promise 15: undo");
        edges.test("Restores the latest saved state, and drops it.", () -> {
            for (Made.Maker maker : new Made.Maker[] {Made.BUSY, Made.BROKEN, Made.FULL}) {
                Made.Maker undone = () -> {
                    LeastRows x = maker.make();
                    x.undo();
                    return x;
                };
                List<List<Long>> saved = Whole.saved(maker);
                Check.holds("the state behind undo()", Whole.now(undone.make()).equals(saved.get(0)));
                Check.holds("what is left", Whole.saved(undone).equals(saved.subList(1, saved.size())));
                Check.holds("undo() changes the slots", Whole.slots(undone).equals(Whole.slots(maker)));
                Check.equal("the length of the buffer", undone.make().clearBuffer(), maker.make().clearBuffer());
            }
        });
        edges.test("Returns how many saved states are left.", () -> {
            LeastRows x = Made.FULL.make();
            for (int left = 5; left >= 0; left--) {
                Check.equal("undo()", x.undo(), left);
                Check.equal("count(8)", x.count(8), left);
            }
        });
        edges.test("Throws `IllegalStateException` if there is none", () -> {
            Edges.refused("undo()", Edges.STATE, x -> x.undo(), Made.FRESH);
            Edges.refused("undo() of one left", Edges.STATE, x -> x.undo(), () -> {
                LeastRows x = Made.sized(2, 2);
                x.undo();
                return x;
            });
            Edges.refused("undo() of six undone", Edges.STATE, x -> x.undo(), () -> {
                LeastRows x = Made.FULL.make();
                while (x.count(8) > 0) {
                    x.undo();
                }
                return x;
            });
        });
    }
}
