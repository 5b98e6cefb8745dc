/** The table, its size, its cells, points, mending, and the witnesses against the rule. */
final class TableEdges {
    private static final int[] SIDES = {1, 2, 4, 9, 10};

    private final Edges edges;

    TableEdges(Edges edges) {
        this.edges = edges;
    }

    void run() {
        calls();
        theTable();
        theRule();
        newObject();
        size();
        put();
        points();
        argumentsOfPoints();
        mend();
        cell();
        witness();
    }

    private void calls() {
        edges.section("What it is");
        edges.test("An object is used for at most 512 calls", () -> {
            LeastRows x = Made.FULL.make();
            x.goBack(0);
            // 81 calls until here: what is kept in the slot 0 has no looks counted.
            for (int call = 82; call <= 510; call++) {
                x.find(call % 3);
            }
            Check.equal("the call 511, count(4)", x.count(4), 143 * (100 + 46 + 60));
            Check.equal("the call 512, undo()", x.undo(), 5);
        });
    }

    /** Each cell has a number of its own, so that no two of them can be taken for one another. */
    private static LeastRows numbered() {
        LeastRows x = Made.sized(10, 10);
        for (int row = 0; row < 10; row++) {
            for (int column = 0; column < 10; column++) {
                x.put(row, column, 100 * row + column + 7);
            }
        }
        return x;
    }

    private static void areNumberedFrom(int fromRow, int fromColumn, String what, LeastRows x) {
        x.size(10, 10);
        for (int row = 0; row < 10; row++) {
            for (int column = 0; column < 10; column++) {
                if (row >= fromRow || column >= fromColumn) {
                    Check.equal(what + ", then cell(" + row + ", " + column + ")", x.cell(row, column),
                        100 * row + column + 7);
                }
            }
        }
    }

    private void theTable() {
        edges.section("The table");
        edges.test("The table has 1 to 10 rows and 1 to 10 columns, at first 4 of both", () -> {
            LeastRows x = new LeastRows();
            Check.equal("count(0)", x.count(0), 4);
            Check.equal("count(1)", x.count(1), 4);
            for (int rows = 1; rows <= 10; rows++) {
                for (int columns = 1; columns <= 10; columns++) {
                    x.size(rows, columns);
                    Check.equal("rows", x.count(0), rows);
                    Check.equal("columns", x.count(1), columns);
                }
            }
        });
        edges.test("numbered from 0", () -> {
            for (int rows : SIDES) {
                for (int columns : SIDES) {
                    LeastRows x = Made.sized(rows, columns);
                    x.put(rows - 1, columns - 1, 5);
                    Check.equal("the last cell", x.cell(rows - 1, columns - 1), 5);
                    x.put(0, 0, 6);
                    Check.equal("the first cell", x.cell(0, 0), 6);
                    Check.throwsJust("a row too far", Edges.INDEX, () -> x.cell(rows, 0));
                    Check.throwsJust("a column too far", Edges.INDEX, () -> x.cell(0, columns));
                    Check.throwsJust("a row ahead of 0", Edges.INDEX, () -> x.cell(-1, 0));
                    Check.throwsJust("a column ahead of 0", Edges.INDEX, () -> x.cell(0, -1));
                }
            }
        });
        edges.test("its cells hold numbers from 0 to 9999, at first 0", () -> {
            LeastRows x = Made.sized(10, 10);
            for (int row = 0; row < 10; row++) {
                for (int column = 0; column < 10; column++) {
                    Check.equal("at first", x.cell(row, column), 0);
                    x.put(row, column, 9999);
                    Check.equal("the most", x.cell(row, column), 9999);
                    x.put(row, column, 0);
                    Check.equal("the least", x.cell(row, column), 0);
                }
            }
        });
        edges.test("(Cells outside the rows and columns keep what they hold, until they are changed.)", () -> {
            LeastRows x = numbered();
            x.size(1, 1);
            areNumberedFrom(0, 0, "size(1, 1)", x);
            x.size(1, 10);
            x.points(9, 9, 0, 9);
            areNumberedFrom(1, 10, "points(..) of one row", x);
            LeastRows y = numbered();
            y.size(10, 1);
            y.points(9, 9, 0, 9);
            areNumberedFrom(10, 1, "points(..) of one column", y);
            LeastRows z = Made.type(numbered(), "1,0/0,0");
            z.load();
            z.mend();
            areNumberedFrom(2, 2, "load() and mend() of 2 rows and 2 columns", z);
            z.size(3, 3);
            z.put(2, 2, 55);
            z.size(2, 2);
            z.size(10, 10);
            Check.equal("changed in between", z.cell(2, 2), 55);
        });
        edges.test("The place of a row is the leftmost column with its least number.", () -> {
            String[] rows = {"7", "0,0", "0,1", "1,0", "1,0,0", "0,1,0", "9999,9998", "9999,9999,9999",
                "0,0,0,0,0,0,0,0,0,0", "1,1,1,1,1,1,1,1,1,0", "1,1,1,1,1,1,1,1,0,0", "9,8,7,6,5,4,3,2,2,1",
                "0,9,9,9,9,9,9,9,9,0"};
            int[] due = {0, 0, 0, 1, 1, 0, 1, 0, 0, 9, 8, 9, 0};
            for (int i = 0; i < rows.length; i++) {
                LeastRows x = Made.table(rows[i]);
                for (int way = 0; way <= 2; way++) {
                    Check.equal("place(0, " + way + ") of " + rows[i], x.place(0, way), due[i]);
                }
            }
        });
    }

    private static void witnessesOf(String text, int... due) {
        witnessesOf(text, Made.table(text), due);
    }

    private static void witnessesOf(String name, LeastRows x, int... due) {
        for (int what = 0; what <= 3; what++) {
            Check.equal("witness(" + what + ") of " + name, x.witness(what), due[what]);
        }
    }

    /** Zeros, but in one row ones from the column c on, without d: the columns c to d less 1 bear a witness. */
    private static LeastRows broken(int row, int c, int d) {
        LeastRows x = Made.sized(10, 10);
        for (int column = c; column < 10; column++) {
            x.put(row, column, column == d ? 0 : 1);
        }
        return x;
    }

    private void theRule() {
        edges.test("for each row but the last one", () -> {
            witnessesOf("3,2,1", -1, -1, -1, 0);
            witnessesOf("3,3,1/3,3,1/2,1,0", -1, -1, -1, 0);
            witnessesOf("the last row of 10", broken(9, 0, 1), -1, -1, -1, 0);
            witnessesOf("the row ahead of the last one of 10", broken(8, 0, 1), 8, 0, 1, 1);
            LeastRows x = Made.table("0,0/2,1/0,0");
            witnessesOf("the row 1 of 3", x, 1, 0, 1, 1);
            x.size(2, 2);
            witnessesOf("the row 1 of 2, with a row outside", x, -1, -1, -1, 0);
            x.size(3, 1);
            witnessesOf("one column, with a column outside", x, -1, -1, -1, 0);
        });
        edges.test("for each two columns c and d, c less than d", () -> {
            for (int c = 0; c < 10; c++) {
                for (int d = c + 1; d < 10; d++) {
                    witnessesOf("the columns " + c + ", " + d, broken(0, c, d), 0, c, d, d - c);
                    witnessesOf("the columns " + c + ", " + d + " of the row 8", broken(8, c, d), 8, c, d, d - c);
                }
            }
            witnessesOf("1,2/2,1", -1, -1, -1, 0);
            witnessesOf("0,1/0,0", -1, -1, -1, 0);
            witnessesOf("5/0", -1, -1, -1, 0);
        });
        edges.test("if the number in the row at c is greater than that at d, then it is so in the next row, "
            + "too", () -> {
            witnessesOf("1,1/0,1", -1, -1, -1, 0);
            witnessesOf("1,1/1,0", -1, -1, -1, 0);
            witnessesOf("1,0/1,1", 0, 0, 1, 1);
            witnessesOf("1,0/0,1", 0, 0, 1, 1);
            witnessesOf("1,0/1,0", -1, -1, -1, 0);
            witnessesOf("1,0/9999,9998", -1, -1, -1, 0);
            witnessesOf("9999,9998/1,0", -1, -1, -1, 0);
            witnessesOf("9999,0/9999,9999", 0, 0, 1, 1);
            witnessesOf("2,1/2,1/1,1", 1, 0, 1, 1);
        });
        edges.test("the first one is that with the least row, then the least c, then the least d", () -> {
            // (0, 2, 3) and five of the row 1, which are further left.
            witnessesOf("0,0,2,1/9,8,2,2/0,0,0,0", 0, 2, 3, 6);
            // (0, 0, 3), (0, 1, 2), (0, 1, 3) and (0, 2, 3).
            witnessesOf("2,3,1,0/5,4,4,5", 0, 0, 3, 4);
            // (0, 0, 2) and (0, 1, 2), as 2 is greater than 1 in the next row, too.
            witnessesOf("3,2,1/2,1,2", 0, 0, 2, 2);
            witnessesOf("3,2,1/0,0,0", 0, 0, 1, 3);
        });
        edges.test("(If the rule is kept, places never go back from a row to the next one.)", () -> {
            for (int step = 0; step <= 9; step++) {
                for (int stepColumn = 0; stepColumn <= 9; stepColumn++) {
                    LeastRows x = Made.sized(10, 10);
                    if (x.points(0, step, 40, stepColumn) == 1) {
                        Check.equal("count(7)", x.count(7), 0);
                    }
                }
            }
            Check.equal("count(7) of a table that breaks it", Made.table("1,0/0,0").count(7), 1);
        });
    }

    private void newObject() {
        edges.section("Promise 1: A new object");
        edges.test("Creates a table of 4 rows and 4 columns with zeros, and one weight of 1", () -> {
            LeastRows x = new LeastRows();
            int[] due = {4, 4, 1, 1, 0, 0, 0, 0, 0};
            for (int what = 0; what <= 8; what++) {
                Check.equal("count(" + what + ")", x.count(what), due[what]);
            }
            for (int row = 0; row < 4; row++) {
                for (int column = 0; column < 4; column++) {
                    Check.equal("a cell", x.cell(row, column), 0);
                }
            }
            Check.equal("weight(0)", x.weight(0), 1);
        });
        edges.test("with empty slots and an empty buffer", () -> {
            Edges.refused("goBack(0)", Edges.STATE, x -> x.goBack(0), Made.FRESH);
            Edges.refused("goBack(1)", Edges.STATE, x -> x.goBack(1), Made.FRESH);
            Check.equal("firstError()", new LeastRows().firstError(), 0);
            Check.equal("clearBuffer()", new LeastRows().clearBuffer(), 0);
            Check.equal("append(33)", new LeastRows().append(33), 1);
        });
        edges.test("`LeastRows()`", () -> {
            Made.FULL.make();
            Check.holds("an object shares something with another one",
                Whole.of(LeastRows::new).equals(Whole.of(Made.FRESH)));
        });
        edges.section("Exceptions");
        edges.test("`NONE = -1`", () -> Check.equal("NONE", LeastRows.NONE, -1));
    }

    private void size() {
        edges.section("Promise 2: size");
        edges.test("Changes the size of the table.", () -> {
            LeastRows x = numbered();
            x.weigh(9);
            x.find(0);
            x.size(2, 3);
            int[] due = {2, 3, 2, 10, 100, 1, 0, 0, 6};
            for (int what = 0; what <= 8; what++) {
                Check.equal("count(" + what + ")", x.count(what), due[what]);
            }
            areNumberedFrom(0, 0, "size(2, 3)", x);
        });
        edges.test("Undoable.", () -> {
            Edges.undoable("size(1, 10)", x -> x.size(1, 10));
            Edges.undoable("the same size", x -> x.size(x.count(0), x.count(1)));
        });
        edges.test("`rows`: 1 to 10", () ->
            Edges.range("size(rows, 4)", 1, 10, Edges.ARGUMENT, (x, rows) -> {
                x.size(rows, 4);
                Check.equal("count(0)", x.count(0), rows);
                Check.equal("count(1)", x.count(1), 4);
            }));
        edges.test("`columns`: 1 to 10", () ->
            Edges.range("size(4, columns)", 1, 10, Edges.ARGUMENT, (x, columns) -> {
                x.size(4, columns);
                Check.equal("count(0)", x.count(0), 4);
                Check.equal("count(1)", x.count(1), columns);
            }));
        edges.test("Returns 11 times the rows before, and the columns before, together.", () -> {
            LeastRows x = new LeastRows();
            Check.equal("size(1, 1)", x.size(1, 1), 48);
            Check.equal("size(1, 10)", x.size(1, 10), 12);
            Check.equal("size(10, 1)", x.size(10, 1), 21);
            Check.equal("size(10, 10)", x.size(10, 10), 111);
            Check.equal("size(10, 10)", x.size(10, 10), 120);
        });
        edges.test("Throws `IllegalArgumentException` if an argument is out of range", () -> {
            Edges.refused("size(0, 0)", Edges.ARGUMENT, x -> x.size(0, 0));
            Edges.refused("size(11, 11)", Edges.ARGUMENT, x -> x.size(11, 11));
            Edges.refused("size(0, 11)", Edges.ARGUMENT, x -> x.size(0, 11));
        });
    }

    private void put() {
        edges.section("Promise 3: put");
        edges.test("Changes a cell.", () -> {
            LeastRows x = numbered();
            x.put(4, 6, 1);
            Check.equal("the cell", x.cell(4, 6), 1);
            x.put(4, 6, 413);
            areNumberedFrom(0, 0, "put(..) and back", x);
        });
        edges.test("Undoable.", () -> {
            Edges.undoable("put(0, 0, 9999)", x -> x.put(0, 0, 9999));
            Edges.undoable("the same number", x -> x.put(0, 0, x.cell(0, 0)));
        });
        edges.test("`row`: a row of the table", () -> {
            for (int side : SIDES) {
                Edges.range("put(row, 0, 1) with " + side + " rows", 0, side - 1, Edges.INDEX,
                    (x, row) -> x.put(row, 0, 1), () -> Made.sized(side, 10));
            }
        });
        edges.test("`column`: a column of the table", () -> {
            for (int side : SIDES) {
                Edges.range("put(0, column, 1) with " + side + " columns", 0, side - 1, Edges.INDEX,
                    (x, column) -> x.put(0, column, 1), () -> Made.sized(10, side));
            }
        });
        edges.test("`number`: 0 to 9999", () ->
            Edges.range("put(2, 3, number)", 0, 9999, Edges.ARGUMENT, (x, number) -> {
                x.put(2, 3, number);
                Check.equal("cell(2, 3)", x.cell(2, 3), number);
            }));
        edges.test("Returns the number before.", () -> {
            LeastRows x = new LeastRows();
            Check.equal("put(3, 3, 9999)", x.put(3, 3, 9999), 0);
            Check.equal("put(3, 3, 0)", x.put(3, 3, 0), 9999);
            Check.equal("put(3, 3, 1)", x.put(3, 3, 1), 0);
        });
        edges.test("Throws `IndexOutOfBoundsException` if there is no such cell", () -> {
            Edges.refused("put(-1, -1, 0)", Edges.INDEX, x -> x.put(-1, -1, 0));
            Edges.refused("put(10, 10, 0)", Edges.INDEX, x -> x.put(10, 10, 0));
            // The exception that is named first, where the number is wrong, too.
            Edges.refused("put(-1, 0, -1)", Edges.INDEX, x -> x.put(-1, 0, -1));
            Edges.refused("put(0, 10, 10000)", Edges.INDEX, x -> x.put(0, 10, 10000));
            Edges.refused("put(10, 0, 10000)", Edges.INDEX, x -> x.put(10, 0, 10000));
        });
        edges.test("Throws `IllegalArgumentException` if number is out of range", () -> {
            Edges.refused("put(0, 0, -1)", Edges.ARGUMENT, x -> x.put(0, 0, -1));
            Edges.refused("put(2, 3, 10000)", Edges.ARGUMENT, x -> x.put(2, 3, 10000));
        });
    }

    private static int atPoints(int first, int step, int firstColumn, int stepColumn, int row, int column) {
        LeastRows x = Made.sized(10, 10);
        x.points(first, step, firstColumn, stepColumn);
        return x.cell(row, column);
    }

    private void points() {
        edges.section("Promise 4: points");
        edges.test("the point of the row r is at first, and step for each row further on, together", () -> {
            Check.equal("the row 0", atPoints(50, 9, 0, 0, 0, 9), 50 * 50);
            Check.equal("the row 1", atPoints(50, 9, 0, 0, 1, 9), 59 * 59);
            Check.equal("the row 9", atPoints(0, 9, 0, 0, 9, 0), 81 * 81);
        });
        edges.test("that of the column c likewise with the other two", () -> {
            Check.equal("the column 0", atPoints(0, 0, 50, 9, 9, 0), 50 * 50);
            Check.equal("the column 1", atPoints(0, 0, 50, 9, 9, 1), 59 * 59);
            Check.equal("the column 9", atPoints(0, 0, 0, 9, 0, 9), 81 * 81);
            Check.equal("both the same", atPoints(50, 9, 50, 9, 9, 9), 0);
            Check.equal("both", atPoints(50, 9, 0, 1, 2, 3), 65 * 65);
        });
        edges.test("each cell of the table gets the square of the difference of both points, at most 9999", () -> {
            Check.equal("99 more", atPoints(27, 8, 0, 0, 9, 0), 9801);
            Check.equal("100 more", atPoints(28, 8, 0, 0, 9, 0), 9999);
            Check.equal("131 more", atPoints(50, 9, 0, 0, 9, 9), 9999);
            Check.equal("99 less", atPoints(0, 0, 27, 8, 0, 9), 9801);
            Check.equal("100 less", atPoints(0, 0, 28, 8, 0, 9), 9999);
            Check.equal("131 less", atPoints(0, 0, 50, 9, 9, 9), 9999);
            Check.equal("1 less", atPoints(0, 0, 1, 0, 0, 0), 1);
        });
        edges.test("Makes the table of points", () -> {
            LeastRows x = numbered();
            x.size(2, 3);
            x.points(7, 3, 5, 4);
            int[][] due = {{4, 4, 36}, {25, 1, 9}};
            for (int row = 0; row < 2; row++) {
                for (int column = 0; column < 3; column++) {
                    Check.equal("a cell", x.cell(row, column), due[row][column]);
                }
            }
            areNumberedFrom(2, 3, "points(7, 3, 5, 4)", x);
        });
        edges.test("Undoable.", () -> {
            Edges.undoable("points(50, 9, 0, 7)", x -> x.points(50, 9, 0, 7));
            Edges.undoable("the same points", x -> x.points(0, 9, 0, 9), Made.FULL);
            Edges.undoable("the same zeros", x -> x.points(0, 0, 0, 0), Made.FRESH);
        });
        edges.test("Returns 1 if the rule is kept then, otherwise 0.", () -> {
            LeastRows x = Made.table("1,0/0,0");
            Check.equal("points(..) of a table that was broken", x.points(0, 1, 0, 1), 1);
            LeastRows y = Made.sized(10, 2);
            // The rows 0 to 6 have their first number greater, which are 9999 and 9409 in the row 6; the
            // row 7 has 9999 twice.
            Check.equal("points(..) that are cut off", y.points(50, 9, 0, 7), 0);
            Check.equal("its witness", y.witness(0), 6);
            y.size(7, 2);
            Check.equal("points(..) of 7 rows", y.points(50, 9, 0, 7), 1);
            y.size(8, 2);
            Check.equal("points(..) of 8 rows", y.points(50, 9, 0, 7), 0);
            y.size(1, 10);
            Check.equal("points(..) of one row", y.points(50, 9, 0, 9), 1);
            y.size(10, 1);
            Check.equal("points(..) of one column", y.points(50, 9, 0, 9), 1);
            y.size(10, 10);
            Check.equal("points(..) that are all one", y.points(50, 0, 50, 0), 1);
        });
    }

    private void argumentsOfPoints() {
        edges.test("`first`: 0 to 50: the point of the row 0", () ->
            Edges.range("points(first, 9, 50, 0)", 0, 50, Edges.ARGUMENT, (x, first) -> {
                x.points(first, 9, 50, 0);
                Check.equal("cell(0, 0)", x.cell(0, 0), first == 0 ? 2500 : 0);
            }));
        edges.test("`step`: 0 to 9", () ->
            Edges.range("points(0, step, 0, 0)", 0, 9, Edges.ARGUMENT, (x, step) -> {
                x.points(0, step, 0, 0);
                Check.equal("cell(1, 0)", x.cell(1, 0), step == 0 ? 0 : 81);
            }));
        edges.test("`firstColumn`: 0 to 50: the point of the column 0", () ->
            Edges.range("points(50, 0, firstColumn, 9)", 0, 50, Edges.ARGUMENT, (x, firstColumn) -> {
                x.points(50, 0, firstColumn, 9);
                Check.equal("cell(0, 0)", x.cell(0, 0), firstColumn == 0 ? 2500 : 0);
            }));
        edges.test("`stepColumn`: 0 to 9", () ->
            Edges.range("points(0, 0, 0, stepColumn)", 0, 9, Edges.ARGUMENT, (x, stepColumn) -> {
                x.points(0, 0, 0, stepColumn);
                Check.equal("cell(0, 1)", x.cell(0, 1), stepColumn == 0 ? 0 : 81);
            }));
        edges.test("Throws `IllegalArgumentException` if an argument is out of range", () -> {
            Edges.refused("points(-1, -1, -1, -1)", Edges.ARGUMENT, x -> x.points(-1, -1, -1, -1));
            Edges.refused("points(51, 10, 51, 10)", Edges.ARGUMENT, x -> x.points(51, 10, 51, 10));
        });
    }

    private void mend() {
        edges.section("Promise 5: mend");
        edges.test("the number of the next row at its column c becomes 1 more than that at its column d", () -> {
            LeastRows x = Made.table("5,3,3/0,0,4/1,1,1");
            x.mend();
            Check.equal("c of (0, 0, 1)", x.cell(1, 0), 1);
            Check.equal("d of (0, 0, 1)", x.cell(1, 1), 0);
            x.mend();
            Check.equal("c of (0, 0, 2)", x.cell(1, 0), 5);
            Check.equal("count(6)", x.count(6), 2);
            int[] left = {5, 3, 3, 5, 0, 4, 1, 1, 1};
            for (int i = 0; i < 9; i++) {
                Check.equal("a cell", x.cell(i / 3, i % 3), left[i]);
            }
        });
        edges.test("Undoable.", () -> {
            Edges.undoable("mend()", x -> x.mend());
            Edges.undoable("mend() of 9999", x -> x.mend(), () -> Made.table("1,0/0,9999"));
        });
        edges.test("Returns the row of the witness; NONE if there is none", () -> {
            Check.equal("mend() in the row 0", broken(0, 0, 1).mend(), 0);
            Check.equal("mend() in the row 8", broken(8, 8, 9).mend(), 8);
            Check.equal("mend() in the row 9", broken(9, 8, 9).mend(), -1);
            LeastRows kept = new LeastRows();
            Check.equal("mend() without a witness", kept.mend(), -1);
            Check.equal("count(6)", kept.count(6), 0);
            Check.equal("count(8)", kept.count(8), 1);
        });
        edges.test("or that number would be above 9999 (nothing is changed then)", () -> {
            LeastRows most = Made.table("1,0/0,9998");
            Check.equal("mend() to 9999", most.mend(), 0);
            Check.equal("cell(1, 0)", most.cell(1, 0), 9999);
            Check.equal("count(6)", most.count(6), 1);
            // The row 1 bears two more witnesses, which are not mended in place of the first one.
            LeastRows above = Made.table("2,1,1/5,9999,0/0,0,0");
            Made.Maker before = () -> {
                LeastRows x = Made.table("2,1,1/5,9999,0/0,0,0");
                x.size(3, 3);
                return x;
            };
            Made.Maker after = () -> {
                LeastRows x = Made.table("2,1,1/5,9999,0/0,0,0");
                Check.equal("mend() to 10000", x.mend(), -1);
                return x;
            };
            Check.equal("witness(3)", above.witness(3), 3);
            Check.holds("mend() to 10000 changes something", Whole.of(after).equals(Whole.of(before)));
        });
    }

    private void cell() {
        edges.section("Promise 16: cell");
        edges.test("Returns the number of a cell.", () ->
            Edges.onlyAsks("cell(2, 3)", x -> x.cell(2, 3)));
        edges.test("`row`: a row of the table", () -> {
            for (int side : SIDES) {
                Edges.range("cell(row, 0) with " + side + " rows", 0, side - 1, Edges.INDEX,
                    (x, row) -> x.cell(row, 0), () -> Made.sized(side, 10));
            }
        });
        edges.test("`column`: a column of the table", () -> {
            for (int side : SIDES) {
                Edges.range("cell(0, column) with " + side + " columns", 0, side - 1, Edges.INDEX,
                    (x, column) -> x.cell(0, column), () -> Made.sized(10, side));
            }
        });
        edges.test("Returns the number.", () -> areNumberedFrom(0, 0, "numbers of their own", numbered()));
        edges.test("Throws `IndexOutOfBoundsException` if there is no such cell", () -> {
            Edges.refused("cell(-1, -1)", Edges.INDEX, x -> x.cell(-1, -1));
            Edges.refused("cell(10, 10)", Edges.INDEX, x -> x.cell(10, 10));
            Edges.refused("a cell outside of the table", Edges.INDEX, x -> x.cell(3, 3), Made.BUSY);
        });
    }

    private void witness() {
        edges.section("Promise 20: witness");
        edges.test("Returns something of the first witness against the rule.", () -> {
            for (int what = 0; what <= 3; what++) {
                int asked = what;
                Edges.onlyAsks("witness(" + what + ")", x -> x.witness(asked));
            }
        });
        edges.test("`what`: 0: its row; 1: its column c; 2: its column d; 3: how many witnesses there are", () -> {
            witnessesOf("7,7,7,7/1,0,2,1/1,1,2,1/0,0,0,0", 1, 0, 1, 2);
            // As many as there can be: each second row falls, and the next one is level.
            LeastRows x = Made.sized(10, 10);
            for (int row = 0; row < 10; row += 2) {
                for (int column = 0; column < 10; column++) {
                    x.put(row, column, 9 - column);
                }
            }
            witnessesOf("falling rows", x, 0, 0, 1, 5 * 45);
        });
        edges.test("Returns the number; NONE for 0 to 2 if there is none.", () -> {
            witnessesOf("4 rows and 4 columns of zeros", new LeastRows(), -1, -1, -1, 0);
            witnessesOf("one row", Made.sized(1, 10), -1, -1, -1, 0);
            witnessesOf("one column", Made.sized(10, 1), -1, -1, -1, 0);
            witnessesOf("one at the row 0 and the columns 0 and 1", broken(0, 0, 1), 0, 0, 1, 1);
        });
        edges.test("Throws `IllegalArgumentException` if what is not 0 to 3", () ->
            Edges.range("witness(what)", 0, 3, Edges.ARGUMENT, (x, what) -> x.witness(what)));
    }
}
