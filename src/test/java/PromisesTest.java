/** Each promise by itself, with answers that were worked out from the document by hand. */
public final class PromisesTest {
    private static final Class<IllegalArgumentException> ARGUMENT = IllegalArgumentException.class;
    private static final Class<IllegalStateException> STATE = IllegalStateException.class;
    private static final Class<IndexOutOfBoundsException> INDEX = IndexOutOfBoundsException.class;

    public static void main(String[] args) {
        newObject();
        size();
        put();
        points();
        mend();
        find();
        weigh();
        unweigh();
        append();
        clearBuffer();
        firstError();
        load();
        keep();
        goBack();
        undo();
        cell();
        place();
        looks();
        bound();
        witness();
        count();
        weight();
        cost();
        cut();
        fewestParts();
        halfShare();
        digest();
        Check.end();
    }

    private static void newObject() {
        LeastRows x = new LeastRows();
        Check.equal("1: NONE", LeastRows.NONE, -1);
        int[] due = {4, 4, 1, 1, 0, 0, 0, 0, 0};
        for (int what = 0; what <= 8; what++) {
            Check.equal("1: count(" + what + ")", x.count(what), due[what]);
        }
        for (int row = 0; row < 4; row++) {
            for (int column = 0; column < 4; column++) {
                Check.equal("1: cell", x.cell(row, column), 0);
            }
        }
        Check.equal("1: weight(0)", x.weight(0), 1);
        Check.equal("1: empty buffer", x.clearBuffer(), 0);
        Check.refused("1: empty slot 0", x, STATE, () -> x.goBack(0));
        Check.refused("1: empty slot 1", x, STATE, () -> x.goBack(1));
        x.size(10, 10);
        for (int row = 0; row < 10; row++) {
            for (int column = 0; column < 10; column++) {
                Check.equal("1: hidden cell", x.cell(row, column), 0);
            }
        }
        x.put(0, 0, 7);
        Check.equal("1: two objects share nothing", new LeastRows().cell(0, 0), 0);
    }

    private static void size() {
        LeastRows x = new LeastRows();
        Check.equal("2: size(10, 1)", x.size(10, 1), 48);
        Check.equal("2: rows", x.count(0), 10);
        Check.equal("2: columns", x.count(1), 1);
        Check.equal("2: size(1, 10)", x.size(1, 10), 111);
        Check.equal("2: size(2, 3)", x.size(2, 3), 21);
        Check.equal("2: saved", x.count(8), 3);
        x.put(1, 2, 55);
        x.size(1, 2);
        x.size(2, 3);
        Check.equal("2: a cell outside keeps its number", x.cell(1, 2), 55);
        Check.equal("2: the same size is saved, too", x.size(2, 3), 25);
        Check.equal("2: saved", x.count(8), 6);
        x.undo();
        x.undo();
        Check.equal("2: undone", x.count(0), 1);
        for (int bad : new int[] {0, 11, -1, Integer.MIN_VALUE, Integer.MAX_VALUE}) {
            Check.refused("2: rows " + bad, x, ARGUMENT, () -> x.size(bad, 1));
            Check.refused("2: columns " + bad, x, ARGUMENT, () -> x.size(1, bad));
        }
    }

    private static void put() {
        LeastRows x = new LeastRows();
        Check.equal("3: put", x.put(3, 2, 9999), 0);
        Check.equal("3: put", x.put(3, 2, 0), 9999);
        Check.equal("3: put", x.put(3, 2, 0), 0);
        Check.equal("3: saved", x.count(8), 3);
        x.undo();
        x.undo();
        Check.equal("3: undone", x.cell(3, 2), 9999);
        Check.equal("3: only this cell", x.cell(2, 3), 0);
        for (int bad : new int[] {4, 9, 10, -1, Integer.MIN_VALUE, Integer.MAX_VALUE, 429496730}) {
            Check.refused("3: row " + bad, x, INDEX, () -> x.put(bad, 0, 1));
            Check.refused("3: column " + bad, x, INDEX, () -> x.put(0, bad, 1));
            Check.refused("3: no cell goes first", x, INDEX, () -> x.put(bad, 0, 10000));
        }
        Check.refused("3: number -1", x, ARGUMENT, () -> x.put(0, 0, -1));
        Check.refused("3: number 10000", x, ARGUMENT, () -> x.put(0, 0, 10000));
    }

    private static void points() {
        LeastRows x = new LeastRows();
        x.size(3, 4);
        x.size(2, 3);
        Check.equal("4: points", x.points(7, 3, 5, 4), 1);
        int[][] due = {{4, 4, 36}, {25, 1, 9}};
        for (int row = 0; row < 2; row++) {
            for (int column = 0; column < 3; column++) {
                Check.equal("4: cell", x.cell(row, column), due[row][column]);
            }
        }
        Check.equal("4: saved", x.count(8), 3);
        x.size(3, 4);
        Check.equal("4: outside of the table", x.cell(0, 3), 0);
        Check.equal("4: outside of the table", x.cell(2, 0), 0);
        x.undo();
        x.undo();
        Check.equal("4: undone", x.cell(0, 0), 0);
        x.size(10, 2);
        // The row 6 has the differences 104 and 97, so 9999 and 9409; the row 7 has 113 and 106,
        // so 9999 twice: the cap itself can break the rule.
        Check.equal("4: capped", x.points(50, 9, 0, 7), 0);
        Check.equal("4: capped", x.cell(9, 0), 9999);
        Check.equal("4: capped", x.cell(9, 1), 9999);
        Check.equal("4: not capped", x.cell(5, 0), 9025);
        Check.equal("4: capped on one side", x.cell(6, 0), 9999);
        Check.equal("4: capped on one side", x.cell(6, 1), 9409);
        Check.equal("4: the witness row", x.witness(0), 6);
        Check.equal("4: steps of 0", x.points(50, 0, 50, 0), 1);
        Check.equal("4: steps of 0", x.cell(9, 1), 0);
        int[][] bad = {{-1, 0, 0, 0}, {51, 0, 0, 0}, {0, -1, 0, 0}, {0, 10, 0, 0}, {0, 0, -1, 0}, {0, 0, 51, 0},
            {0, 0, 0, -1}, {0, 0, 0, 10}, {Integer.MIN_VALUE, 0, 0, 0}, {0, Integer.MAX_VALUE, 0, 0}};
        for (int[] b : bad) {
            Check.refused("4: out of range", x, ARGUMENT, () -> x.points(b[0], b[1], b[2], b[3]));
        }
    }

    private static void mend() {
        LeastRows x = Made.table("5,3,3/0,0,4/1,1,1");
        // (0, 0, 1) is the first witness, and (0, 0, 2) is one, too.
        Check.equal("5: witnesses", x.witness(3), 2);
        Check.equal("5: mend", x.mend(), 0);
        Check.equal("5: 1 more than at d", x.cell(1, 0), 1);
        Check.equal("5: mended", x.count(6), 1);
        Check.equal("5: saved", x.count(8), 2);
        Check.equal("5: mend", x.mend(), 0);
        Check.equal("5: 1 more than at d", x.cell(1, 0), 5);
        Check.equal("5: mend", x.mend(), 1);
        Check.equal("5: 1 more than at d", x.cell(2, 0), 2);
        Check.equal("5: nothing left to mend", x.mend(), -1);
        Check.equal("5: not mended", x.count(6), 3);
        Check.equal("5: saved also if nothing changes", x.count(8), 5);
        x.undo();
        x.undo();
        Check.equal("5: undone", x.count(6), 2);
        Check.equal("5: undone", x.cell(2, 0), 1);
        LeastRows top = Made.table("1,0/9998,9999");
        Check.equal("5: above 9999", top.mend(), -1);
        Check.equal("5: above 9999", top.cell(1, 0), 9998);
        Check.equal("5: above 9999", top.count(6), 0);
        Check.equal("5: above 9999 is saved", top.count(8), 2);
        LeastRows edge = Made.table("1,0/0,9998");
        Check.equal("5: just 9999", edge.mend(), 0);
        Check.equal("5: just 9999", edge.cell(1, 0), 9999);
    }

    private static void find() {
        LeastRows x = new LeastRows();
        Check.equal("6: find(0)", x.find(0), 16);
        Check.equal("6: find(1)", x.find(1), 13);
        Check.equal("6: find(2)", x.find(2), 18);
        Check.equal("6: looks counted", x.count(4), 47);
        Check.equal("6: found", x.count(5), 3);
        Check.equal("6: saved", x.count(8), 3);
        x.undo();
        Check.equal("6: undone", x.count(4), 29);
        Check.equal("6: undone", x.count(5), 2);
        x.put(0, 0, 1);
        Check.refused("6: way 1 with a witness", x, STATE, () -> x.find(1));
        Check.refused("6: way 2 with a witness", x, STATE, () -> x.find(2));
        Check.equal("6: way 0 with a witness", x.find(0), 16);
        for (int bad : new int[] {-1, 3, Integer.MIN_VALUE, Integer.MAX_VALUE}) {
            Check.refused("6: way " + bad, x, ARGUMENT, () -> x.find(bad));
        }
    }

    private static void weigh() {
        LeastRows x = new LeastRows();
        Check.equal("7: weigh", x.weigh(99), 2);
        Check.equal("7: behind all others", x.weight(1), 99);
        for (int i = 3; i <= 10; i++) {
            Check.equal("7: weigh", x.weigh(i), i);
        }
        Check.equal("7: behind all others", x.weight(9), 10);
        Check.equal("7: saved", x.count(8), 6);
        Check.refused("7: there are 10", x, STATE, () -> x.weigh(1));
        Check.refused("7: the argument goes first", x, ARGUMENT, () -> x.weigh(0));
        x.undo();
        Check.equal("7: undone", x.count(2), 9);
        for (int bad : new int[] {0, 100, -1, Integer.MIN_VALUE, Integer.MAX_VALUE}) {
            Check.refused("7: weight " + bad, x, ARGUMENT, () -> x.weigh(bad));
        }
        Check.equal("7: weigh(1)", x.weigh(1), 10);
    }

    private static void unweigh() {
        LeastRows x = Made.weights(5, 7);
        Check.equal("8: unweigh", x.unweigh(), 7);
        Check.equal("8: unweigh", x.unweigh(), 5);
        Check.equal("8: saved", x.count(8), 4);
        Check.refused("8: only one", x, STATE, () -> x.unweigh());
        x.undo();
        Check.equal("8: undone", x.weight(1), 5);
        Check.equal("8: undone", x.count(2), 2);
        x.undo();
        Check.equal("8: undone", x.weight(2), 7);
        x.unweigh();
        x.weigh(9);
        x.undo();
        x.undo();
        Check.equal("8: undone behind another weight", x.weight(2), 7);
    }

    private static void append() {
        LeastRows x = new LeastRows();
        long empty = x.digest();
        Check.equal("9: append", x.append(33), 1);
        Check.holds("9: the buffer is changed", x.digest() != empty);
        for (int i = 2; i <= 60; i++) {
            Check.equal("9: append", x.append(126), i);
        }
        Check.equal("9: not undoable", x.count(8), 0);
        Check.refused("9: full", x, STATE, () -> x.append(48));
        Check.refused("9: the argument goes first", x, ARGUMENT, () -> x.append(32));
        x.clearBuffer();
        for (int bad : new int[] {32, 127, 0, -1, Integer.MIN_VALUE, Integer.MAX_VALUE, 33 + 65536}) {
            Check.refused("9: code " + bad, x, ARGUMENT, () -> x.append(bad));
        }
    }

    private static void clearBuffer() {
        LeastRows x = new LeastRows();
        long empty = x.digest();
        Check.equal("10: clearBuffer", x.clearBuffer(), 0);
        Made.type(x, "1,x");
        Check.equal("10: clearBuffer", x.clearBuffer(), 3);
        Check.equal("10: cleared", x.clearBuffer(), 0);
        Check.equal("10: not undoable", x.count(8), 0);
        Check.equal("10: digest", x.digest(), empty);
    }

    private static void error(String text, int due) {
        LeastRows x = new LeastRows();
        Made.type(x, text);
        long before = x.digest();
        Check.equal("11: firstError of " + text, x.firstError(), due);
        Check.equal("11: nothing is changed", x.digest(), before);
    }

    private static void firstError() {
        error("", 0);
        error("0", 1);
        error("00", 1);
        error("01", 1);
        error("10", 2);
        error("9999", 4);
        error("10000", 4);
        error("99999", 4);
        error(",", 0);
        error("/", 0);
        error("a", 0);
        error("1a", 1);
        error("-1", 0);
        error("1,", 2);
        error("1,,", 2);
        error("1,/", 2);
        error("1/", 2);
        error("1//", 2);
        error("1/,", 2);
        error("1/2,", 3);
        error("1,2/3/", 5);
        error("1,2/3", 5);
        error("1,2/3,4,", 7);
        error("1,2/3,4/5", 9);
        error("0,0,0,0,0,0,0,0,0,0", 19);
        error("0,0,0,0,0,0,0,0,0,0,", 19);
        error("0/0/0/0/0/0/0/0/0/0", 19);
        error("0/0/0/0/0/0/0/0/0/0/", 19);
        error("1!", 1);
        error("1:", 1);
        error("1.", 1);
        error("1-", 1);
        error("1,2,3,4,5,6,7,8,9,10/1,2,3,4,5,6,7,8,9,10/1,2,3,4,5,6,7,8,9,", 60);
    }

    private static void refusedText(String text) {
        LeastRows x = new LeastRows();
        Made.type(x, text);
        Check.refused("12: load of " + text, x, ARGUMENT, () -> x.load());
        Check.equal("12: the buffer stays", x.clearBuffer(), text.length());
    }

    private static void load() {
        LeastRows x = new LeastRows();
        x.put(0, 0, 11);
        x.put(1, 3, 22);
        x.put(2, 0, 33);
        Made.type(x, "70,8,9999/0,10,1");
        Check.equal("12: load", x.load(), 25);
        int[][] due = {{70, 8, 9999}, {0, 10, 1}};
        for (int row = 0; row < 2; row++) {
            for (int column = 0; column < 3; column++) {
                Check.equal("12: cell", x.cell(row, column), due[row][column]);
            }
        }
        Check.equal("12: the buffer is cleared", x.clearBuffer(), 0);
        Check.equal("12: saved", x.count(8), 4);
        x.size(4, 4);
        Check.equal("12: outside of it", x.cell(1, 3), 22);
        Check.equal("12: outside of it", x.cell(2, 0), 33);
        x.undo();
        x.undo();
        Check.equal("12: undone", x.cell(0, 0), 11);
        Check.equal("12: undone", x.count(0), 4);
        Check.equal("12: undo leaves the buffer", x.clearBuffer(), 0);
        Made.type(x, "5");
        Check.equal("12: load", x.load(), 12);
        Made.type(x, "0,0,0,0,0,0,0,0,0,1");
        Check.equal("12: ten columns", x.load(), 21);
        Check.equal("12: ten columns", x.cell(0, 9), 1);
        Made.type(x, "0/0/0/0/0/0/0/0/0/2");
        Check.equal("12: ten rows", x.load(), 111);
        Check.equal("12: ten rows", x.cell(9, 0), 2);
        for (String bad : new String[] {"", ",", "1,", "1/", "01", "10000", "1,2/3", "1/2,3", "1,2/3,4/", "1,2/3,",
            "1x", "x", "0,0,0,0,0,0,0,0,0,0,0", "0/0/0/0/0/0/0/0/0/0/0"}) {
            refusedText(bad);
        }
    }

    private static void keep() {
        LeastRows x = new LeastRows();
        x.size(3, 2);
        Check.equal("13: keep", x.keep(0), 3);
        Check.equal("13: not undoable", x.count(8), 1);
        x.put(1, 1, 6);
        Check.equal("13: keep", x.keep(1), 3);
        x.size(9, 9);
        Check.equal("13: in place of the one in the slot", x.keep(0), 9);
        x.undo();
        Check.equal("13: undo leaves the slots", x.goBack(0), 9);
        Check.equal("13: the other slot", x.goBack(1), 3);
        Check.equal("13: the other slot", x.cell(1, 1), 6);
        for (int bad : new int[] {-1, 2, Integer.MIN_VALUE, Integer.MAX_VALUE}) {
            Check.refused("13: slot " + bad, x, ARGUMENT, () -> x.keep(bad));
        }
    }

    private static void goBack() {
        LeastRows x = new LeastRows();
        x.size(5, 5);
        x.put(4, 4, 44);
        x.weigh(8);
        x.find(0);
        x.size(2, 2);
        x.keep(1);
        x.size(5, 5);
        x.put(4, 4, 45);
        x.weigh(9);
        x.find(0);
        x.mend();
        Made.type(x, "1,2");
        Check.equal("14: goBack", x.goBack(1), 2);
        Check.equal("14: saved states stay", x.count(8), 6);
        Check.equal("14: weights", x.count(2), 2);
        Check.equal("14: looks counted", x.count(4), 25);
        Check.equal("14: found", x.count(5), 1);
        Check.equal("14: the buffer stays", x.clearBuffer(), 3);
        x.size(5, 5);
        Check.equal("14: a cell outside", x.cell(4, 4), 44);
        x.put(4, 4, 46);
        Check.equal("14: the snapshot stays", x.goBack(1), 2);
        Check.equal("14: undo", x.undo(), 5);
        Check.equal("14: undone", x.cell(4, 4), 46);
        Check.refused("14: no snapshot", x, STATE, () -> x.goBack(0));
        for (int bad : new int[] {-1, 2, Integer.MIN_VALUE, Integer.MAX_VALUE}) {
            Check.refused("14: slot " + bad, x, ARGUMENT, () -> x.goBack(bad));
        }
    }

    private static void undo() {
        LeastRows x = new LeastRows();
        Check.refused("15: none", x, STATE, () -> x.undo());
        long[] digests = new long[9];
        for (int i = 0; i < 9; i++) {
            digests[i] = x.digest();
            x.put(0, 0, i + 1);
        }
        Check.equal("15: at most 6", x.count(8), 6);
        for (int left = 5; left >= 0; left--) {
            Check.equal("15: undo", x.undo(), left);
            Check.equal("15: undone", x.cell(0, 0), left + 3);
        }
        Check.refused("15: the oldest were dropped", x, STATE, () -> x.undo());
        LeastRows y = new LeastRows();
        long start = y.digest();
        y.find(2);
        y.weigh(3);
        y.undo();
        y.undo();
        Check.equal("15: all is as before", y.digest(), start);
        Made.type(y, "7");
        y.keep(0);
        y.load();
        Check.equal("15: undo", y.undo(), 0);
        Check.equal("15: the buffer is not restored", y.clearBuffer(), 0);
        Check.equal("15: the slots stay", y.goBack(0), 4);
    }

    private static void cell() {
        LeastRows x = Made.table("1,2,3/4,5,6");
        Check.equal("16: cell", x.cell(0, 0), 1);
        Check.equal("16: cell", x.cell(1, 2), 6);
        Check.equal("16: cell", x.cell(1, 0), 4);
        for (int bad : new int[] {3, 9, 10, -1, Integer.MIN_VALUE, Integer.MAX_VALUE}) {
            Check.refused("16: row " + bad, x, INDEX, () -> x.cell(bad, 0));
            Check.refused("16: column " + bad, x, INDEX, () -> x.cell(0, bad));
        }
        Check.refused("16: row 2", x, INDEX, () -> x.cell(2, 0));
    }

    private static void place() {
        LeastRows x = Made.table("2,1,1,3/2,1,1,1/5,4,3,3/9,8,7,0");
        int[] due = {1, 1, 2, 3};
        for (int row = 0; row < 4; row++) {
            for (int way = 0; way <= 2; way++) {
                Check.equal("17: place(" + row + ", " + way + ")", x.place(row, way), due[row]);
            }
        }
        Check.equal("17: nothing is counted", x.count(4), 0);
        Check.equal("17: nothing is saved", x.count(8), 1);
        LeastRows y = Made.table("2,1/0,0");
        Check.equal("17: with a witness", y.place(0, 0), 1);
        Check.equal("17: with a witness", y.place(1, 0), 0);
        Check.equal("17: with a witness", y.place(0, 1), -1);
        Check.equal("17: with a witness", y.place(0, 2), -1);
        for (int bad : new int[] {-1, 4, 10, Integer.MIN_VALUE, Integer.MAX_VALUE}) {
            Check.refused("17: row " + bad, x, INDEX, () -> x.place(bad, 0));
            Check.refused("17: no row goes first", x, INDEX, () -> x.place(bad, 3));
        }
        for (int bad : new int[] {-1, 3, Integer.MIN_VALUE, Integer.MAX_VALUE}) {
            Check.refused("17: way " + bad, x, ARGUMENT, () -> x.place(0, bad));
            Check.refused("17: way with a witness", y, ARGUMENT, () -> y.place(0, bad));
        }
    }

    private static void looks() {
        LeastRows x = new LeastRows();
        Check.equal("18: looks(0)", x.looks(0), 16);
        Check.equal("18: looks(1)", x.looks(1), 13);
        Check.equal("18: looks(2)", x.looks(2), 18);
        Check.equal("18: nothing is counted", x.count(4), 0);
        Check.equal("18: nothing is counted", x.count(5), 0);
        x.size(1, 1);
        Check.equal("18: one cell", x.looks(0), 1);
        Check.equal("18: one cell", x.looks(1), 1);
        Check.equal("18: one cell", x.looks(2), 1);
        x.size(1, 3);
        // By throwing out: two pairs, then the one column that is left.
        Check.equal("18: one row", x.looks(1), 3);
        Check.equal("18: one row", x.looks(2), 5);
        x.size(3, 1);
        Check.equal("18: one column", x.looks(1), 3);
        Check.equal("18: one column", x.looks(2), 3);
        LeastRows z = Made.table("3,1,2/3,2,1");
        // The column 0 loses at once against 1; 1 stays for the row 0, as 2 is greater there.
        // The row 1 with the columns 1 and 2: 2 looks, then 1; the row 0: both columns.
        Check.equal("18: throwing out", z.looks(2), 2 + 2 + 2 + 1 + 2);
        Check.equal("18: halves", z.looks(1), 3 + 2);
        x.size(8, 9);
        x.points(0, 9, 0, 9);
        Check.equal("18: halves", x.looks(1), 34);
        Check.equal("18: throwing out", x.looks(2), 65);
        x.points(10, 2, 0, 9);
        Check.equal("18: halves", x.looks(1), 38);
        Check.equal("18: throwing out", x.looks(2), 51);
        LeastRows y = Made.table("2,1/0,0");
        Check.equal("18: with a witness", y.looks(0), 4);
        Check.equal("18: with a witness", y.looks(1), -1);
        Check.equal("18: with a witness", y.looks(2), -1);
        for (int bad : new int[] {-1, 3, Integer.MIN_VALUE, Integer.MAX_VALUE}) {
            Check.refused("18: way " + bad, x, ARGUMENT, () -> x.looks(bad));
            Check.refused("18: way with a witness", y, ARGUMENT, () -> y.looks(bad));
        }
    }

    private static void bound() {
        LeastRows x = new LeastRows();
        int[] halvings = {0, 1, 2, 2, 3, 3, 3, 3, 4, 4, 4};
        for (int rows = 1; rows <= 10; rows++) {
            for (int columns = 1; columns <= 10; columns++) {
                x.size(rows, columns);
                Check.equal("19: bound", x.bound(), (rows + columns) * halvings[rows]);
            }
        }
        x.put(0, 0, 5);
        Check.equal("19: with a witness", x.bound(), 80);
    }

    private static void witness() {
        LeastRows x = Made.table("1,2,2/7,4,5/4,5,5");
        // In the row 1, 7 is greater than 4 and 5, and the row 2 has 4 less than 5 and 5.
        int[] due = {1, 0, 1, 2};
        for (int what = 0; what <= 3; what++) {
            Check.equal("20: witness(" + what + ")", x.witness(what), due[what]);
        }
        LeastRows y = Made.table("0,3,2,1/9,3,2,2");
        int[] first = {0, 2, 3, 1};
        for (int what = 0; what <= 3; what++) {
            Check.equal("20: witness(" + what + ")", y.witness(what), first[what]);
        }
        LeastRows kept = Made.table("3,2/3,2/1,0");
        int[] none = {-1, -1, -1, 0};
        for (int what = 0; what <= 3; what++) {
            Check.equal("20: none", kept.witness(what), none[what]);
        }
        LeastRows equal = Made.table("2,2/1,2");
        Check.equal("20: equal numbers bear no witness", equal.witness(3), 0);
        LeastRows level = Made.table("2,1/2,2");
        Check.equal("20: equal in the next row", level.witness(3), 1);
        Check.equal("20: one row", Made.table("5,4,3").witness(3), 0);
        for (int bad : new int[] {-1, 4, Integer.MIN_VALUE, Integer.MAX_VALUE}) {
            Check.refused("20: what " + bad, x, ARGUMENT, () -> x.witness(bad));
        }
    }

    private static void count() {
        LeastRows x = Made.table("9,1,0/0,1,2/5,0,0/0,0,0");
        x.weigh(40);
        x.find(0);
        x.mend();
        x.mend();
        int[] due = {4, 3, 2, 41, 12, 1, 2, 1, 5};
        // The first witness is (0, 0, 1), the second one (0, 0, 2): the row 1 becomes 3, 1, 2.
        // Places: 2, 1, 1, 0: two go back.
        due[7] = 2;
        for (int what = 0; what <= 8; what++) {
            Check.equal("21: count(" + what + ")", x.count(what), due[what]);
        }
        for (int bad : new int[] {-1, 9, Integer.MIN_VALUE, Integer.MAX_VALUE}) {
            Check.refused("21: what " + bad, x, ARGUMENT, () -> x.count(bad));
        }
    }

    private static void weight() {
        LeastRows x = Made.weights(5, 7);
        Check.equal("22: weight(0)", x.weight(0), 1);
        Check.equal("22: weight(1)", x.weight(1), 5);
        Check.equal("22: weight(2)", x.weight(2), 7);
        for (int bad : new int[] {-1, 3, 10, Integer.MIN_VALUE, Integer.MAX_VALUE}) {
            Check.refused("22: number " + bad, x, INDEX, () -> x.weight(bad));
        }
        x.unweigh();
        Check.refused("22: taken away", x, INDEX, () -> x.weight(2));
    }

    private static void cost() {
        LeastRows x = Made.weights(2, 3, 1, 1);
        // 1 2 3 1 1 with costs 64; 3|5: 34; 3|3|2: 22; 1|2|3|2: 18; alone: 16.
        int[] due = {0, 64, 34, 22, 18, 16};
        for (int parts = 1; parts <= 5; parts++) {
            Check.equal("23: cost(" + parts + ", 0)", x.cost(parts, 0), due[parts]);
            Check.equal("23: cost(" + parts + ", 1)", x.cost(parts, 1), due[parts]);
        }
        LeastRows y = Made.weights(99, 99, 99, 99, 99, 99, 99, 99, 99);
        Check.equal("23: cost of 10 heavy weights", y.cost(1, 0), 892 * 892);
        Check.equal("23: cost of 10 heavy weights", y.cost(1, 1), 892 * 892);
        Check.equal("23: cost of 10 heavy weights", y.cost(10, 0), 9 * 9801 + 1);
        Check.equal("23: cost of 10 heavy weights", y.cost(10, 1), 9 * 9801 + 1);
        for (int bad : new int[] {0, 6, 11, -1, Integer.MIN_VALUE, Integer.MAX_VALUE}) {
            Check.refused("23: parts " + bad, x, ARGUMENT, () -> x.cost(bad, 0));
            Check.refused("23: parts " + bad, x, ARGUMENT, () -> x.cost(bad, 1));
        }
        for (int bad : new int[] {-1, 2, Integer.MIN_VALUE, Integer.MAX_VALUE}) {
            Check.refused("23: what " + bad, x, ARGUMENT, () -> x.cost(1, bad));
        }
    }

    private static void cut() {
        LeastRows x = Made.weights(1, 1);
        // 1|11 costs as much as 11|1.
        Check.equal("24: the last cut is the leftmost", x.cut(2, 0), 1);
        Check.equal("24: cuts of 3 parts", x.cut(3, 0), 1);
        Check.equal("24: cuts of 3 parts", x.cut(3, 1), 2);
        Check.equal("24: not so many cuts", x.cut(3, 2), -1);
        Check.equal("24: not so many cuts", x.cut(1, 0), -1);
        Check.equal("24: not so many cuts", x.cut(2, Integer.MAX_VALUE), -1);
        LeastRows y = Made.weights(1, 1, 1);
        // Of 1|1|11, 1|11|1 and 11|1|1 the first has the leftmost last cut.
        Check.equal("24: the last cut goes first", y.cut(3, 0), 1);
        Check.equal("24: the last cut goes first", y.cut(3, 1), 2);
        LeastRows z = Made.weights(1, 1, 1, 1);
        // 1|11|11 and 11|1|11 both have the last cut at 3, 11|11|1 at 4.
        Check.equal("24: then the cut ahead of it", z.cut(3, 0), 1);
        Check.equal("24: then the cut ahead of it", z.cut(3, 1), 3);
        LeastRows far = Made.weights(2, 1, 2, 1);
        // 1 2 1 2 1: 12|1|21 and 1|21|21, 12|12|1: 3 1 3 = 19, 1 3 3 = 19, 3 3 1 = 19.
        Check.equal("24: equal costs", far.cost(3, 0), 19);
        Check.equal("24: equal costs", far.cut(3, 1), 3);
        Check.equal("24: equal costs", far.cut(3, 0), 1);
        for (int bad : new int[] {0, 4, -1, Integer.MIN_VALUE, Integer.MAX_VALUE}) {
            Check.refused("24: parts " + bad, x, ARGUMENT, () -> x.cut(bad, 0));
        }
        Check.refused("24: cut -1", x, ARGUMENT, () -> x.cut(2, -1));
        Check.refused("24: cut -1 of one part", x, ARGUMENT, () -> x.cut(1, -1));
        Check.refused("24: the least cut", x, ARGUMENT, () -> x.cut(2, Integer.MIN_VALUE));
    }

    private static void fewestParts() {
        LeastRows x = Made.weights(2, 3, 1, 1);
        int[][] due = {{999999, 1}, {64, 1}, {63, 2}, {34, 2}, {33, 3}, {22, 3}, {21, 4}, {18, 4}, {17, 5}, {16, 5},
            {15, -1}, {1, -1}};
        for (int[] d : due) {
            Check.equal("25: fewestParts(" + d[0] + ")", x.fewestParts(d[0]), d[1]);
        }
        for (int bad : new int[] {0, 1000000, -1, Integer.MIN_VALUE, Integer.MAX_VALUE}) {
            Check.refused("25: most " + bad, x, ARGUMENT, () -> x.fewestParts(bad));
        }
    }

    private static void halfShare() {
        LeastRows x = new LeastRows();
        Check.same("26: halfShare", x.halfShare(), 0.8125);
        x.size(1, 7);
        Check.same("26: one row", x.halfShare(), 1.0);
        x.size(8, 9);
        x.points(0, 9, 0, 9);
        Check.same("26: halfShare", x.halfShare(), 34.0 / 72.0);
        Check.equal("26: nothing is counted", x.count(4), 0);
        Check.same("26: with a witness", Made.table("2,1/0,0").halfShare(), 0.0);
    }

    private static long hash(long... values) {
        long hash = 3613;
        for (long value : values) {
            hash = 31 * hash + value;
        }
        return hash;
    }

    private static void digest() {
        LeastRows x = Made.table("2,1/2,1");
        x.weigh(3);
        x.keep(1);
        Made.type(x, "9,");
        long share = Double.doubleToLongBits(3.0 / 4.0);
        // The way 1: 2 looks, then 1. The way 2: 0 loses against 1 in the row 0 (2 looks); the row 1
        // and the row 0 then look at the column 1 alone.
        Check.equal("27: digest", x.digest(), hash(2, 2, 2, 4, 0, 0, 0, 0, 2, 2, 1, 2, 1, 1, 1, 1, 1, 1, 1, 4, 3, 4,
            8, -1, -1, -1, 0, 1, 3, 16, 16, 10, 10, 1, 1, share, 0, 1, 2, '9', ','));
        LeastRows y = Made.table("2,1/0,0");
        y.keep(0);
        Check.equal("27: digest with a witness", y.digest(), hash(2, 2, 1, 1, 0, 0, 0, 1, 1, 2, 1, 0, 0, 1, -1, -1, 0,
            -1, -1, 4, -1, -1, 8, 0, 0, 1, 1, 1, 1, 1, 1, 0, 1, 0, 0));
        LeastRows one = Made.table("0");
        Check.equal("27: digest of one cell", one.digest(), hash(1, 1, 1, 1, 0, 0, 0, 0, 1, 0, 0, 0, 0, 1, 1, 1, 2,
            -1, -1, -1, 0, 1, 1, 1, 1, Double.doubleToLongBits(1.0), 0, 0, 0));
        LeastRows heavy = Made.table("0");
        heavy.weigh(10);
        heavy.weigh(30);
        // 1|10|30 costs 1001: too much for the 1000 that the digest asks for.
        Check.equal("27: fewestParts of 1000", heavy.digest(), hash(1, 1, 3, 41, 0, 0, 0, 0, 3, 0, 0, 0, 0, 1, 1, 1,
            2, -1, -1, -1, 0, 1, 10, 30, 1681, 1681, 1021, 1021, 2, 1001, 1001, 1, 2, -1,
            Double.doubleToLongBits(1.0), 0, 0, 0));
        long before = x.digest();
        Check.equal("27: nothing is changed", x.digest(), before);
        Check.equal("27: nothing is saved", x.count(8), 2);
    }
}
