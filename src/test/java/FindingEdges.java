/** The ways to find the places, their looks, and what is counted. */
final class FindingEdges {
    private static final int[] SIDES = {1, 2, 4, 9, 10};
    private static final Made.Maker[] KEPT = {Made.FRESH, Made.BUSY, Made.FULL};
    private static final String BREAKING = "2,1/0,0";

    private final Edges edges;

    FindingEdges(Edges edges) {
        this.edges = edges;
    }

    void run() {
        looking();
        byHalves();
        throwingOut();
        leftColumns();
        find();
        place();
        looks();
        bound();
        count();
        countsOfTheTable();
        halfShare();
    }

    private static void looksOf(int way, String text, int due) {
        Check.equal("looks(" + way + ") of " + text, Made.table(text).looks(way), due);
    }

    private static void placesOf(int way, String text, int... due) {
        LeastRows x = Made.table(text);
        for (int row = 0; row < due.length; row++) {
            Check.equal("place(" + row + ", " + way + ") of " + text, x.place(row, way), due[row]);
        }
    }

    private void looking() {
        edges.section("Ways");
        edges.test("A look is to ask for the number of a cell.", () -> {
            for (int way = 0; way <= 2; way++) {
                looksOf(way, "7", 1);
            }
        });
        edges.test("A way that asks for the same cell once more looks at it again.", () -> {
            // Two cells are looked at to throw one column out, and then the one that is left again.
            looksOf(2, "0,0", 3);
            looksOf(2, "1,0", 3);
            looksOf(2, "0,1", 3);
            looksOf(2, "2,1,0", 5);
        });
        edges.test("row by row from the row 0 on; in each it looks at all columns once, from the column 0 on", () -> {
            for (int rows = 1; rows <= 10; rows++) {
                for (int columns = 1; columns <= 10; columns++) {
                    Check.equal("looks(0)", Made.sized(rows, columns).looks(0), rows * columns);
                }
            }
            placesOf(0, "1,0,0/0,1,0/0,0,1", 1, 0, 0);
        });
        edges.section("Terms");
        edges.test("All numbers are integers, but for a share; divisions are rounded down.", () -> {
            // The middle of the rows 0 and 1 is 0, that of the rows 0 to 3 is 1.
            looksOf(1, "5,0/5,0", 2 + 1);
            looksOf(1, "0,0,0,0/0,0,0,0/0,0,0,0/0,0,0,0", 4 + 1 + 4 + 4);
            Check.equal("bound() of 3 rows", Made.sized(3, 1).bound(), 4 * 2);
        });
    }

    private static int halvedZeros(int rows, int columns) {
        int ahead = (rows - 1) / 2;
        return rows == 0 ? 0 : columns + ahead + halvedZeros(rows - 1 - ahead, columns);
    }

    private void byHalves() {
        edges.section("Ways");
        edges.test("nothing, if a is greater than b", () -> {
            looksOf(1, "0,0,0", 3);
            looksOf(1, "0,0,0,0,0,0,0,0,0,0", 10);
            looksOf(1, "1/1", 2);
            looksOf(1, "0/0/0/0/0/0/0/0/0/0", 10);
        });
        edges.test("with m as (a and b together) divided by 2, it looks at the columns p to q of the row m once each, "
            + "which tells its place", () -> {
            looksOf(1, "0,5/0,5", 2 + 2);
            looksOf(1, "5,0/5,0", 2 + 1);
        });
        edges.test("then it does the rows from a to m less 1, with the columns from p to that place", () -> {
            looksOf(1, "5,0,5/5,0,5/6,5,0", 3 + 2 + 2);
            looksOf(1, "0,5,5/0,5,5/0,5,5", 3 + 1 + 3);
            // The row 4 has the place 9, the rows 1 and 0 look at all, the rows 2 and 3 between 9 and 9.
            LeastRows x = Made.sized(10, 10);
            for (int row = 0; row < 10; row++) {
                for (int column = 0; column < 9; column++) {
                    x.put(row, column, 1);
                }
            }
            Check.equal("looks(1) with the places 9", x.looks(1), 10 + 10 + 10 + 1 + 1 + 5);
            Check.equal("place(9, 1)", x.place(9, 1), 9);
        });
        edges.test("and then those from m and 1 together to b, with the columns from that place to q", () -> {
            looksOf(1, "5,0,5/5,0,5/5,0,5", 3 + 2 + 2);
            looksOf(1, "5,5,0/5,5,0/5,5,0", 3 + 3 + 1);
            placesOf(1, "5,0,5/5,0,5/6,5,0", 1, 1, 2);
            placesOf(1, "0,0,0/5,0,0/6,5,0", 0, 1, 2);
        });
        edges.test("It begins with all rows and all columns.", () -> {
            for (int rows = 1; rows <= 10; rows++) {
                for (int columns = 1; columns <= 10; columns++) {
                    Check.equal("looks(1) of zeros", Made.sized(rows, columns).looks(1), halvedZeros(rows, columns));
                }
            }
        });
    }

    /** What throwing out looks at in zeros: no column is greater, and all places are 0. */
    private static int zerosThrownOut(int rows, int columns) {
        if (rows == 0) {
            return 0;
        }
        int left = Math.min(rows, columns);
        int between = rows / 2;
        int last = rows % 2 == 0 ? 0 : left;
        return 2 * (columns - 1) + zerosThrownOut(rows / 2, left) + between + last;
    }

    private void throwingOut() {
        edges.test("nothing, without rows", () -> looksOf(2, "3", 1));
        edges.test("they are taken one by one, in their order, onto a pile", () -> {
            looksOf(2, "0,0,0,0,0,0,0,0,0,0", 9 * 2 + 1);
            looksOf(2, "9,8,7,6,5,4,3,2,1,0", 9 * 2 + 1);
            placesOf(2, "9,8,7,6,5,4,3,2,1,0", 9);
        });
        edges.test("As long as the pile is not empty", () -> {
            // Three columns lie on the pile when the last one throws them all out.
            looksOf(2, "3,3,3,0/3,3,3,0/3,3,3,0", 2 + 2 + 6 + 1 + 1 + 1);
            placesOf(2, "3,3,3,0/3,3,3,0/3,3,3,0", 3, 3, 3);
        });
        edges.test("in the row with the rank k less 1 (of the rows that are done)", () -> {
            // The column 1 is thrown out in the row 1, which the row 0 would not tell.
            looksOf(2, "0,1,1/0,1,0", 2 + 4 + 2 + 1 + 1);
            // Of the rows 1 and 3 the row 1 has the rank 0.
            looksOf(2, "0,1/1,0/1,0/1,0", 2 + 2 + 1 + 1 + 2 + 1);
            placesOf(2, "0,1/1,0/1,0/1,0", 0, 1, 1, 1);
        });
        edges.test("if that of the top one is greater, the top one is thrown out, otherwise this ends", () -> {
            placesOf(2, "1,1", 0);
            placesOf(2, "1,0", 1);
            placesOf(2, "0,1", 0);
            looksOf(2, "9999,9999,9999", 2 + 2 + 1);
            // The column 2 is not greater than its top in the row 1, so the column 0 is not asked.
            looksOf(2, "1,0,0/1,0,0", 2 + 2 + 2 + 1 + 1);
            looksOf(2, "0,0,0/0,0,0", 2 + 2 + 2 + 1 + 1);
        });
        edges.test("Then the new one is put on top, if the pile has fewer columns than there are rows", () -> {
            // With 2 rows the third column is thrown out itself, with 3 rows it is put on top.
            looksOf(2, "0,0,0/0,0,0", 4 + 2 + 1 + 1);
            looksOf(2, "0,0,0/0,0,0/0,0,0", 4 + 4 + 1 + 1 + 3);
        });
        edges.test("the rows with the ranks 1, 3, 5 and so on are done in this way", () -> {
            placesOf(2, "0,1,1,1/1,0,1,1/2,1,0,1/3,2,1,0", 0, 1, 2, 3);
            placesOf(2, "0,0,0/1,0,0/2,1,0", 0, 1, 2);
        });
    }

    private void leftColumns() {
        edges.test("from the place of the row ahead of it (or from the first column left) to the place of the row "
            + "behind it (or to the last column left)", () -> {
            // The columns 1 and 2 are left; the row 0 looks at the column 1, the row 2 at both.
            looksOf(2, "5,0,5/5,0,5/5,0,5", 4 + 2 + 1 + 1 + 2);
            // The columns 0 and 2 are left; the row 1 has the place 2, the row 0 looks at both, the row 2 at one.
            looksOf(2, "0,0,0/1,1,0/1,1,0", 6 + 2 + 1 + 2 + 1);
            looksOf(2, "0,5/0,5", 2 + 2 + 1 + 1);
        });
        edges.test("the leftmost least of these is its place", () -> {
            placesOf(2, "5,0,0/5,0,0/5,0,0", 1, 1, 1);
            placesOf(2, "0,0/0,0/0,0", 0, 0, 0);
            placesOf(2, "1,0,0/1,0,0/2,1,0", 1, 1, 2);
        });
        edges.test("With the columns that are left", () -> {
            // The place of each row is its own number, as far as there are columns.
            for (int rows = 1; rows <= 10; rows++) {
                for (int columns = 1; columns <= 10; columns++) {
                    LeastRows x = Made.sized(rows, columns);
                    x.points(0, 9, 0, 9);
                    for (int row = 0; row < rows; row++) {
                        int due = Math.min(row, columns - 1);
                        for (int way = 0; way <= 2; way++) {
                            Check.equal("place(" + row + ", " + way + ")", x.place(row, way), due);
                        }
                    }
                }
            }
            LeastRows x = Made.sized(10, 10);
            x.points(0, 9, 0, 9);
            Check.equal("looks(1) of 10 rows", x.looks(1), 10 + (5 + 2 + 4 + 3) + (6 + 4 + 3 + 3 + 2));
            // Thrown out with 10 rows, with 5, with 2, with 1; then looked at with 1, with 2, with 5, with 10.
            Check.equal("looks(2) of 10 rows", x.looks(2), 18 + 26 + 10 + 2 + 1 + 2 + 7 + 14);
        });
        edges.test("It begins with all rows and all columns.", () -> {
            for (int rows = 1; rows <= 10; rows++) {
                for (int columns = 1; columns <= 10; columns++) {
                    LeastRows x = Made.sized(rows, columns);
                    Check.equal("looks(2) of zeros", x.looks(2), zerosThrownOut(rows, columns));
                    for (int row = 0; row < rows; row++) {
                        Check.equal("place(" + row + ", 2) of zeros", x.place(row, 2), 0);
                    }
                }
            }
        });
    }

    private void find() {
        edges.section("Promise 6: find");
        edges.test("Finds the places of all rows by a way, and counts its looks.", () -> {
            LeastRows x = new LeastRows();
            int[] due = {16, 16 + 13, 16 + 13 + 18};
            for (int way = 0; way <= 2; way++) {
                x.find(way);
                Check.equal("count(4)", x.count(4), due[way]);
                Check.equal("count(5)", x.count(5), way + 1);
            }
        });
        edges.test("Undoable.", () -> {
            Edges.undoable("find(0)", x -> x.find(0));
            Edges.undoable("find(1)", x -> x.find(1), KEPT);
            Edges.undoable("find(2)", x -> x.find(2), KEPT);
        });
        edges.test("`way`: 0 to 2", () ->
            Edges.range("find(way)", 0, 2, Edges.ARGUMENT, (x, way) -> x.find(way), KEPT));
        edges.test("Returns how many looks it makes.", () -> {
            LeastRows x = Made.sized(10, 10);
            Check.equal("find(0)", x.find(0), 100);
            Check.equal("find(1)", x.find(1), 46);
            Check.equal("find(2)", x.find(2), 60);
            x.size(1, 1);
            for (int way = 0; way <= 2; way++) {
                Check.equal("find(" + way + ") of one cell", x.find(way), 1);
            }
            Check.equal("find(0) with a witness", Made.table(BREAKING).find(0), 4);
        });
        edges.test("Throws `IllegalArgumentException` if way is out of range", () -> {
            // The exception that is named first, where there is a witness, too.
            for (int bad : Edges.outside(0, 2)) {
                Edges.refused("find(" + bad + ")", Edges.ARGUMENT, x -> x.find(bad), Made.BROKEN);
            }
        });
        edges.test("Throws `IllegalStateException` if way is not 0, and there is a witness against the rule", () -> {
            Edges.refused("find(1)", Edges.STATE, x -> x.find(1), Made.BROKEN);
            Edges.refused("find(2)", Edges.STATE, x -> x.find(2), Made.BROKEN);
            Made.BROKEN.make().find(0);
            LeastRows x = Made.table(BREAKING);
            x.mend();
            Check.equal("find(1) of a mended table", x.find(1), 2 + 1);
        });
    }

    private void place() {
        edges.section("Promise 17: place");
        edges.test("Tells the place of a row by a way.", () -> {
            for (int way = 0; way <= 2; way++) {
                int asked = way;
                Edges.onlyAsks("place(2, " + way + ")", x -> x.place(2, asked));
            }
            for (int way = 0; way <= 2; way++) {
                placesOf(way, "2,1,1,3/2,1,1,1/5,4,3,3/9,8,7,0", 1, 1, 2, 3);
            }
        });
        edges.test("`row`: a row of the table", () -> {
            for (int side : SIDES) {
                for (int way = 0; way <= 2; way++) {
                    int asked = way;
                    Edges.range("place(row, " + way + ") of " + side + " rows", 0, side - 1, Edges.INDEX,
                        (x, row) -> x.place(row, asked), () -> Made.sized(side, 3));
                }
            }
        });
        edges.test("`way`: 0 to 2", () ->
            Edges.range("place(0, way)", 0, 2, Edges.ARGUMENT, (x, way) -> x.place(0, way)));
        edges.test("Returns the column; NONE if way is not 0, and there is a witness against the rule.", () -> {
            placesOf(0, BREAKING, 1, 0);
            placesOf(1, BREAKING, -1, -1);
            placesOf(2, BREAKING, -1, -1);
            LeastRows x = Made.table(BREAKING);
            x.size(1, 2);
            Check.equal("place(0, 1), the witness outside", x.place(0, 1), 1);
            Check.equal("place(0, 2), the witness outside", x.place(0, 2), 1);
        });
        edges.test("Throws `IndexOutOfBoundsException` if there is no such row", () -> {
            Edges.refused("place(-1, 1)", Edges.INDEX, x -> x.place(-1, 1));
            Edges.refused("place(10, 2)", Edges.INDEX, x -> x.place(10, 2));
            // The exception that is named first, where the way is wrong, too.
            Edges.refused("place(-1, -1)", Edges.INDEX, x -> x.place(-1, -1));
            Edges.refused("place(10, 3)", Edges.INDEX, x -> x.place(10, 3));
        });
        edges.test("Throws `IllegalArgumentException` if way is out of range", () -> {
            Edges.refused("place(2, -1)", Edges.ARGUMENT, x -> x.place(2, -1));
            Edges.refused("place(2, 3)", Edges.ARGUMENT, x -> x.place(2, 3));
        });
    }

    private void looks() {
        edges.section("Promise 18: looks");
        edges.test("Tells how many looks a way would make.", () -> {
            for (int way = 0; way <= 2; way++) {
                int asked = way;
                Edges.onlyAsks("looks(" + way + ")", x -> x.looks(asked));
            }
        });
        edges.test("`way`: 0 to 2", () ->
            Edges.range("looks(way)", 0, 2, Edges.ARGUMENT, (x, way) -> x.looks(way)));
        edges.test("Returns the looks; NONE if way is not 0, and there is a witness against the rule.", () -> {
            looksOf(0, BREAKING, 4);
            looksOf(1, BREAKING, -1);
            looksOf(2, BREAKING, -1);
            LeastRows x = Made.table(BREAKING);
            x.size(1, 2);
            Check.equal("looks(1), the witness outside", x.looks(1), 2);
            Check.equal("looks(2), the witness outside", x.looks(2), 3);
        });
        edges.test("Throws `IllegalArgumentException` if way is out of range", () ->
            Edges.refused("looks(3)", Edges.ARGUMENT, x -> x.looks(3), Made.BROKEN));
    }

    private void bound() {
        edges.section("Promise 19: bound");
        edges.test("Tells the bound of the looks by halves.", () -> {
            Edges.onlyAsks("bound()", x -> x.bound());
            for (int rows = 1; rows <= 10; rows++) {
                for (int columns = 1; columns <= 10; columns++) {
                    LeastRows x = Made.sized(rows, columns);
                    Check.holds("looks(1) above the bound", x.looks(1) <= x.bound());
                }
            }
        });
        edges.test("Returns the rows and the columns together, times the halvings: how often the rows have to be "
            + "divided by 2 until nothing is left of them.", () -> {
            int[] halvings = {0, 1, 2, 2, 3, 3, 3, 3, 4, 4, 4};
            for (int rows = 1; rows <= 10; rows++) {
                for (int columns = 1; columns <= 10; columns++) {
                    Check.equal("bound() of " + rows + " rows and " + columns + " columns",
                        Made.sized(rows, columns).bound(), (rows + columns) * halvings[rows]);
                }
            }
            Check.equal("bound() with a witness", Made.table(BREAKING).bound(), 8);
        });
    }

    private void count() {
        edges.section("Promise 21: count");
        edges.test("`int count(int what) throws IllegalArgumentException`: Returns a number.", () -> {
            for (int what = 0; what <= 8; what++) {
                int asked = what;
                Edges.onlyAsks("count(" + what + ")", x -> x.count(asked));
            }
        });
        edges.test("2: weights; 3: these together", () -> {
            Check.equal("count(2) at first", new LeastRows().count(2), 1);
            Check.equal("count(3) at first", new LeastRows().count(3), 1);
            LeastRows x = Made.weights(99, 99, 99, 99, 99, 99, 99, 99, 99);
            Check.equal("count(2) at most", x.count(2), 10);
            Check.equal("count(3) at most", x.count(3), 892);
            x.unweigh();
            Check.equal("count(2) of one less", x.count(2), 9);
            Check.equal("count(3) of one less", x.count(3), 793);
        });
        edges.test("4: looks counted so far by find(); 5: how often find() found so far", () -> {
            LeastRows x = Made.sized(10, 10);
            for (int i = 1; i <= 100; i++) {
                x.find(0);
                x.looks(1);
                x.place(0, 2);
            }
            Check.equal("count(4)", x.count(4), 10000);
            Check.equal("count(5)", x.count(5), 100);
        });
        edges.test("6: how often mend() mended so far", () -> {
            LeastRows x = Made.table("9,1,0/0,1,2/5,0,0/0,0,0");
            Check.equal("count(6) at first", x.count(6), 0);
            for (int i = 1; x.witness(3) > 0; i++) {
                x.mend();
                Check.equal("count(6)", x.count(6), i);
            }
            int mended = x.count(6);
            x.mend();
            Check.equal("count(6) with nothing to mend", x.count(6), mended);
            LeastRows above = Made.table("1,0/0,9999");
            above.mend();
            Check.equal("count(6) of what can't be mended", above.count(6), 0);
        });
        edges.test("8: saved states", () -> {
            LeastRows x = new LeastRows();
            for (int saved = 0; saved <= 8; saved++) {
                Check.equal("count(8)", x.count(8), Math.min(saved, 6));
                x.size(4, 4);
            }
        });
        edges.test("Returns the number.", () -> {
            int[] due = {4, 5, 2, 3, 40, 2, 1, 2, 5};
            LeastRows x = Made.BROKEN.make();
            for (int what = 0; what <= 8; what++) {
                Check.equal("count(" + what + ")", x.count(what), due[what]);
            }
        });
        edges.test("Throws `IllegalArgumentException` if what is not 0 to 8", () ->
            Edges.range("count(what)", 0, 8, Edges.ARGUMENT, (x, what) -> x.count(what)));
    }

    private void countsOfTheTable() {
        edges.test("`what`: 0: rows; 1: columns", () -> {
            LeastRows x = Made.sized(1, 10);
            Check.equal("count(0)", x.count(0), 1);
            Check.equal("count(1)", x.count(1), 10);
            x.size(10, 1);
            Check.equal("count(0)", x.count(0), 10);
            Check.equal("count(1)", x.count(1), 1);
        });
        edges.test("7: rows whose place is less than that of the row ahead of it", () -> {
            LeastRows x = Made.sized(10, 10);
            for (int row = 0; row < 10; row++) {
                for (int column = 0; column < 10; column++) {
                    x.put(row, column, column == 9 - row ? 0 : 1);
                }
            }
            for (int rows = 1; rows <= 10; rows++) {
                x.size(rows, 10);
                Check.equal("count(7) of " + rows + " rows", x.count(7), rows - 1);
            }
            Check.equal("level places", Made.table("1,0/1,0").count(7), 0);
            Check.equal("places that go on", Made.table("0,1/1,0").count(7), 0);
            Check.equal("one back by one", Made.table("1,1,0/1,0,1/1,1,0").count(7), 1);
            Check.equal("one column", Made.sized(10, 1).count(7), 0);
        });
    }

    private void halfShare() {
        edges.section("Promise 26: halfShare");
        edges.test("Returns how few looks halving makes.", () -> Edges.onlyAsks("halfShare()", x -> x.halfShare()));
        edges.test("Returns looks(1) as a double, divided by looks(0)", () -> {
            Check.same("4 rows and 4 columns", new LeastRows().halfShare(), 0.8125);
            Check.same("one cell", Made.sized(1, 1).halfShare(), 1.0);
            Check.same("one row", Made.sized(1, 10).halfShare(), 1.0);
            Check.same("one column", Made.sized(10, 1).halfShare(), 1.0);
            Check.same("all cells", Made.sized(10, 10).halfShare(), 0.46);
            Check.same("a third that is not even", Made.table("0,5,5/0,5,5/0,5,5").halfShare(), 7.0 / 9.0);
        });
        edges.test("0.0 if there is a witness against the rule", () -> {
            Check.same("with a witness", Made.table(BREAKING).halfShare(), 0.0);
            LeastRows x = Made.table(BREAKING);
            x.size(1, 2);
            Check.same("the witness outside", x.halfShare(), 1.0);
        });
    }
}
