/** Weights, and the parts that they are cut into. */
final class CuttingEdges {
    private static final Made.Maker[] WITH_ROOM = {Made.FRESH, Made.BUSY, Made.BROKEN};
    private static final Made.Maker[] WITH_SOME = {Made.BUSY, Made.BROKEN, Made.FULL};
    private static final int[] COUNTS = {1, 2, 9, 10};

    private final Edges edges;

    CuttingEdges(Edges edges) {
        this.edges = edges;
    }

    void run() {
        cutting();
        weigh();
        unweigh();
        weight();
        cost();
        cut();
        fewestParts();
    }

    /** So many weights of 1. */
    private static LeastRows ones(int count) {
        LeastRows x = new LeastRows();
        while (x.count(2) < count) {
            x.weigh(1);
        }
        return x;
    }

    private static void costs(int parts, int due, int... weights) {
        for (int what = 0; what <= 1; what++) {
            Check.equal("cost(" + parts + ", " + what + ")", Made.weights(weights).cost(parts, what), due);
        }
    }

    private static void cuts(LeastRows x, int... due) {
        int parts = due.length + 1;
        for (int cut = 0; cut < due.length; cut++) {
            Check.equal("cut(" + parts + ", " + cut + ")", x.cut(parts, cut), due[cut]);
        }
        Check.equal("cut(" + parts + ", " + due.length + ")", x.cut(parts, due.length), -1);
    }

    private void cutting() {
        edges.section("Cutting");
        edges.test("There are 1 to 10 weights, each 1 to 99, at first one of 1, numbered from 0.", () -> {
            LeastRows x = new LeastRows();
            Check.equal("count(2) at first", x.count(2), 1);
            Check.equal("weight(0) at first", x.weight(0), 1);
            Check.throwsJust("unweigh() of one", Edges.STATE, () -> x.unweigh());
            for (int count = 2; count <= 10; count++) {
                x.weigh(count % 2 == 0 ? 99 : 1);
                Check.equal("the last weight", x.weight(count - 1), count % 2 == 0 ? 99 : 1);
            }
            Check.throwsJust("weigh(1) of 10", Edges.STATE, () -> x.weigh(1));
        });
        edges.test("each of one or more weights that stand side by side", () -> {
            // 1 and 1 together, ahead of and behind the 9, would cost less.
            costs(2, 1 + 100, 9, 1);
            costs(3, 1 + 81 + 1, 9, 1);
            costs(2, 1 + 1, 1);
        });
        edges.test("a part costs the square of its weights together", () -> {
            costs(1, 1);
            costs(1, 100 * 100, 99);
            costs(2, 1 + 99 * 99, 99);
            costs(1, 892 * 892, 99, 99, 99, 99, 99, 99, 99, 99, 99);
            costs(10, 1 + 9 * 9801, 99, 99, 99, 99, 99, 99, 99, 99, 99);
            costs(2, 397 * 397 + 495 * 495, 99, 99, 99, 99, 99, 99, 99, 99, 99);
        });
        edges.test("Of all ways to cut with the least cost the first one is that in which the last cut is the "
            + "leftmost", () -> {
            cuts(ones(3), 1);
            cuts(ones(5), 2);
            cuts(ones(10), 5);
            cuts(ones(9), 4);
            // 1 2 | 1 2 1 costs 25, as 1 2 1 | 2 1 does.
            cuts(Made.weights(2, 1, 2, 1), 2);
        });
        edges.test("of several that in which the cut ahead of it is, and so on", () -> {
            cuts(ones(4), 1, 2);
            cuts(ones(5), 1, 3);
            cuts(ones(10), 3, 6);
            cuts(ones(10), 2, 4, 7);
            cuts(ones(10), 1, 2, 3, 4, 5, 6, 7, 8);
            cuts(ones(10), 1, 2, 3, 4, 5, 6, 7, 8, 9);
        });
    }

    private void weigh() {
        edges.section("Promise 7: weigh");
        edges.test("Adds a weight behind all others.", () -> {
            LeastRows x = new LeastRows();
            for (int i = 1; i <= 9; i++) {
                x.weigh(10 * i);
                Check.equal("weight(" + i + ")", x.weight(i), 10 * i);
                Check.equal("weight(" + (i - 1) + ")", x.weight(i - 1), i == 1 ? 1 : 10 * i - 10);
            }
            x.unweigh();
            x.weigh(7);
            Check.equal("weight(9) in place of another one", x.weight(9), 7);
        });
        edges.test("Undoable.", () -> {
            Edges.undoable("weigh(99)", x -> x.weigh(99), WITH_ROOM);
            Edges.undoable("weigh(1) to 10", x -> x.weigh(1), () -> ones(9));
        });
        edges.test("`weight`: 1 to 99", () ->
            Edges.range("weigh(weight)", 1, 99, Edges.ARGUMENT, (x, weight) -> {
                x.weigh(weight);
                Check.equal("the last weight", x.weight(x.count(2) - 1), weight);
            }, WITH_ROOM));
        edges.test("Returns how many there are then.", () -> {
            LeastRows x = new LeastRows();
            for (int count = 2; count <= 10; count++) {
                Check.equal("weigh(1)", x.weigh(1), count);
            }
        });
        edges.test("Throws `IllegalArgumentException` if weight is out of range", () -> {
            // The exception that is named first, where there are 10 weights, too.
            for (int bad : Edges.outside(1, 99)) {
                Edges.refused("weigh(" + bad + ")", Edges.ARGUMENT, x -> x.weigh(bad), Made.FULL);
            }
        });
        edges.test("Throws `IllegalStateException` if there are 10", () -> {
            Edges.refused("weigh(1)", Edges.STATE, x -> x.weigh(1), Made.FULL, () -> ones(10));
            Edges.refused("weigh(99)", Edges.STATE, x -> x.weigh(99), Made.FULL, () -> ones(10));
            Check.equal("weigh(1) of 9", ones(9).weigh(1), 10);
        });
    }

    private void unweigh() {
        edges.section("Promise 8: unweigh");
        edges.test("Takes the last weight away.", () -> {
            LeastRows x = Made.FULL.make();
            for (int count = 10; count > 1; count--) {
                x.unweigh();
                Check.equal("count(2)", x.count(2), count - 1);
            }
            Check.equal("weight(0)", x.weight(0), 1);
        });
        edges.test("Undoable.", () -> {
            Edges.undoable("unweigh()", x -> x.unweigh(), WITH_SOME);
            LeastRows x = Made.weights(5, 7);
            x.unweigh();
            x.weigh(9);
            x.undo();
            x.undo();
            Check.equal("weight(2), another one in its place in between", x.weight(2), 7);
        });
        edges.test("Returns the weight.", () -> {
            LeastRows x = Made.weights(99, 1, 50);
            Check.equal("unweigh()", x.unweigh(), 50);
            Check.equal("unweigh()", x.unweigh(), 1);
            Check.equal("unweigh() of two", x.unweigh(), 99);
        });
        edges.test("Throws `IllegalStateException` if there is only one", () -> {
            Edges.refused("unweigh()", Edges.STATE, x -> x.unweigh(), Made.FRESH);
            Edges.refused("unweigh() of a last one", Edges.STATE, x -> x.unweigh(), () -> {
                LeastRows x = Made.weights(4);
                x.unweigh();
                return x;
            });
        });
    }

    private void weight() {
        edges.section("Promise 22: weight");
        edges.test("`int weight(int number) throws IndexOutOfBoundsException`: Returns a weight.", () ->
            Edges.onlyAsks("weight(0)", x -> x.weight(0)));
        edges.test("`number`: its number", () -> {
            for (int count : COUNTS) {
                Edges.range("weight(number) of " + count, 0, count - 1, Edges.INDEX,
                    (x, number) -> x.weight(number), () -> ones(count));
            }
        });
        edges.test("Returns the weight.", () -> {
            LeastRows x = Made.FULL.make();
            for (int number = 0; number <= 9; number++) {
                Check.equal("weight(" + number + ")", x.weight(number), number == 0 ? 1 : 90 + number);
            }
        });
        edges.test("Throws `IndexOutOfBoundsException` if there is no such weight", () -> {
            Edges.refused("weight(-1)", Edges.INDEX, x -> x.weight(-1));
            Edges.refused("weight(10)", Edges.INDEX, x -> x.weight(10));
            Edges.refused("weight(9) of one taken away", Edges.INDEX, x -> x.weight(9), () -> {
                LeastRows x = Made.FULL.make();
                x.unweigh();
                return x;
            });
        });
    }

    private void cost() {
        edges.section("Promise 23: cost");
        edges.test("Tells the least cost of cutting the weights.", () -> {
            Edges.onlyAsks("cost(1, 0)", x -> x.cost(1, 0));
            Edges.onlyAsks("cost(1, 1)", x -> x.cost(1, 1));
        });
        edges.test("`parts`: 1 to the number of weights", () -> {
            for (int count : COUNTS) {
                for (int what = 0; what <= 1; what++) {
                    int asked = what;
                    Edges.range("cost(parts, " + what + ") of " + count, 1, count, Edges.ARGUMENT,
                        (x, parts) -> x.cost(parts, asked), () -> ones(count));
                }
            }
        });
        edges.test("`what`: 0: told part by part, for all first weights together; 1: told by trying all cuts", () ->
            Edges.range("cost(1, what)", 0, 1, Edges.ARGUMENT, (x, what) -> x.cost(1, what)));
        edges.test("Returns the cost (the same for both).", () -> {
            int[] due = {100, 50, 34, 26, 20, 18, 16, 14, 12, 10};
            for (int parts = 1; parts <= 10; parts++) {
                Check.equal("cost(" + parts + ", 0)", ones(10).cost(parts, 0), due[parts - 1]);
                Check.equal("cost(" + parts + ", 1)", ones(10).cost(parts, 1), due[parts - 1]);
            }
            // 1 and 2, 3, 1, 1: together; 1 2|3 1 1; 1 2|3|1 1; 1|2|3|1 1; each alone.
            int[] dueMixed = {64, 34, 22, 18, 16};
            for (int parts = 1; parts <= 5; parts++) {
                costs(parts, dueMixed[parts - 1], 2, 3, 1, 1);
            }
            LeastRows x = Made.FULL.make();
            for (int parts = 1; parts <= 10; parts++) {
                Check.equal("cost of " + parts + " parts", x.cost(parts, 0), x.cost(parts, 1));
            }
        });
        edges.test("Throws `IllegalArgumentException` if an argument is out of range", () -> {
            Edges.refused("cost(0, -1)", Edges.ARGUMENT, x -> x.cost(0, -1));
            Edges.refused("cost(11, 2)", Edges.ARGUMENT, x -> x.cost(11, 2));
            Edges.refused("cost(10, 0) of 9", Edges.ARGUMENT, x -> x.cost(10, 0), () -> {
                LeastRows x = Made.FULL.make();
                x.unweigh();
                return x;
            });
        });
    }

    private void cut() {
        edges.section("Promise 24: cut");
        edges.test("Tells where a cut is in the first way to cut with the least cost.", () -> {
            Edges.onlyAsks("cut(1, 0)", x -> x.cut(1, 0));
            Edges.onlyAsks("cut(2, 0)", x -> x.cut(2, 0), WITH_SOME);
        });
        edges.test("`parts`: 1 to the number of weights", () -> {
            for (int count : COUNTS) {
                Edges.range("cut(parts, 0) of " + count, 1, count, Edges.ARGUMENT,
                    (x, parts) -> x.cut(parts, 0), () -> ones(count));
            }
        });
        edges.test("`cut`: from 0, from the left", () -> {
            LeastRows x = Made.FULL.make();
            for (int parts = 1; parts <= 10; parts++) {
                int ahead = 0;
                for (int cut = 0; cut < parts - 1; cut++) {
                    int next = x.cut(parts, cut);
                    Check.holds("cut(" + parts + ", " + cut + ") is not behind the one ahead of it", next > ahead);
                    ahead = next;
                }
            }
        });
        edges.test("Returns how many weights are ahead of this cut; NONE if there are not so many cuts.", () -> {
            cuts(Made.weights(9));
            cuts(Made.weights(9), 1);
            // 1 2 | 3 1 1, 1 2 | 3 | 1 1, 1 | 2 | 3 | 1 1.
            cuts(Made.weights(2, 3, 1, 1), 2);
            cuts(Made.weights(2, 3, 1, 1), 2, 3);
            cuts(Made.weights(2, 3, 1, 1), 1, 2, 3);
            cuts(Made.weights(2, 3, 1, 1), 1, 2, 3, 4);
            for (int cut : new int[] {9, 10, 11, 429496730, Integer.MAX_VALUE}) {
                for (int parts = 1; parts <= 10; parts++) {
                    Check.equal("cut(" + parts + ", " + cut + ")", ones(10).cut(parts, cut), -1);
                }
            }
        });
        edges.test("Throws `IllegalArgumentException` if parts is out of range, or cut is below 0", () -> {
            for (int bad : new int[] {-1, -2, -429496729, Integer.MIN_VALUE}) {
                Edges.refused("cut(1, " + bad + ")", Edges.ARGUMENT, x -> x.cut(1, bad));
                Edges.refused("cut(2, " + bad + ")", Edges.ARGUMENT, x -> x.cut(2, bad), WITH_SOME);
                Edges.refused("cut(0, " + bad + ")", Edges.ARGUMENT, x -> x.cut(0, bad));
                Edges.refused("cut(11, " + bad + ")", Edges.ARGUMENT, x -> x.cut(11, bad));
            }
        });
    }

    private static void fewest(LeastRows x, int most, int due) {
        Check.equal("fewestParts(" + most + ")", x.fewestParts(most), due);
    }

    private void fewestParts() {
        edges.section("Promise 25: fewestParts");
        edges.test("Tells into how few parts the weights have to be cut for a cost.", () ->
            Edges.onlyAsks("fewestParts(1000)", x -> x.fewestParts(1000)));
        edges.test("`most`: 1 to 999999", () ->
            Edges.range("fewestParts(most)", 1, 999999, Edges.ARGUMENT, (x, most) -> {
                int due = most == 999999 || x.count(2) == 1 ? 1 : -1;
                fewest(x, most, due);
            }));
        edges.test("Returns the fewest parts with which the least cost is at most so much; NONE if there are "
            + "none.", () -> {
            int[][] due = {{64, 1}, {63, 2}, {34, 2}, {33, 3}, {22, 3}, {21, 4}, {18, 4}, {17, 5}, {16, 5}, {15, -1}};
            for (int[] d : due) {
                fewest(Made.weights(2, 3, 1, 1), d[0], d[1]);
            }
            LeastRows heavy = Made.weights(99, 99, 99, 99, 99, 99, 99, 99, 99);
            fewest(heavy, 892 * 892, 1);
            fewest(heavy, 892 * 892 - 1, 2);
            fewest(heavy, 1 + 9 * 9801, 10);
            fewest(heavy, 9 * 9801, -1);
            fewest(new LeastRows(), 1, 1);
            fewest(Made.weights(1), 1, -1);
            fewest(Made.weights(1), 2, 2);
            fewest(Made.weights(1), 3, 2);
            fewest(Made.weights(1), 4, 1);
        });
        edges.test("Throws `IllegalArgumentException` if most is out of range", () -> {
            Edges.refused("fewestParts(0)", Edges.ARGUMENT, x -> x.fewestParts(0), () -> ones(10));
            Edges.refused("fewestParts(1000000)", Edges.ARGUMENT, x -> x.fewestParts(1000000), () -> ones(10));
        });
    }
}
