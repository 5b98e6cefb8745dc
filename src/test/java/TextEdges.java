/** The buffer, what is a table as a text, and the first character that is none. */
final class TextEdges {
    private static final String DIGITS = "0123456789";
    private static final String TEN_COLUMNS = "0,0,0,0,0,0,0,0,0,";
    private static final String TEN_ROWS = "0/0/0/0/0/0/0/0/0/";
    private static final Made.Maker[] WITH_ROOM = {Made.FRESH, Made.BUSY, Made.BROKEN};

    private final Edges edges;

    TextEdges(Edges edges) {
        this.edges = edges;
    }

    void run() {
        inputText();
        follow();
        append();
        clearBuffer();
        firstError();
        load();
    }

    private static void error(String text, int due) {
        Check.equal("firstError() of " + text, Made.typed(text).firstError(), due);
    }

    private static void loads(String text, int due) {
        Check.equal("firstError() of " + text, Made.typed(text).firstError(), text.length());
        Check.equal("load() of " + text, Made.typed(text).load(), due);
    }

    private static void refuses(String text) {
        Edges.refused("load() of \"" + text + "\"", Edges.ARGUMENT, x -> x.load(), () -> Made.typed(text));
    }

    /** Of all characters just these go on without an error. */
    private static void onlyThese(String begun, String due) {
        for (int code = 33; code <= 126; code++) {
            LeastRows x = Made.typed(begun);
            Check.equal("firstError() of " + begun, x.firstError(), begun.length());
            x.append(code);
            int length = begun.length() + 1;
            Check.equal("firstError() of " + begun + (char) code, x.firstError(),
                due.indexOf(code) >= 0 ? length : length - 1);
        }
    }

    private void inputText() {
        edges.section("Input text");
        edges.test("The buffer has at most 60 characters.", () -> {
            LeastRows x = new LeastRows();
            for (int length = 1; length <= 60; length++) {
                Check.equal("append(33)", x.append(33), length);
            }
            Check.throwsJust("append(33) of 60", Edges.STATE, () -> x.append(33));
            Check.equal("clearBuffer()", x.clearBuffer(), 60);
            Check.equal("append(33) of a cleared buffer", x.append(33), 1);
        });
        edges.test("A table as a text is one to ten rows with \"/\" between them", () -> {
            loads("0", 12);
            loads("0/0", 23);
            loads(TEN_ROWS + "0", 111);
            error(TEN_ROWS + "0/", 19);
            refuses(TEN_ROWS + "0/");
            refuses(TEN_ROWS + "0/0");
            error("/", 0);
            refuses("/");
            refuses("/0");
            error("0//0", 2);
            refuses("0//0");
            error("0\\0", 1);
        });
        edges.test("each of one to ten numbers with \",\" between them", () -> {
            loads("0,0", 13);
            loads(TEN_COLUMNS + "0", 21);
            error(TEN_COLUMNS + "0,", 19);
            refuses(TEN_COLUMNS + "0,");
            refuses(TEN_COLUMNS + "0,0");
            error(",", 0);
            refuses(",");
            refuses(",0");
            error("0,,0", 2);
            refuses("0,,0");
            error("0,/0", 2);
            error("0/,0", 2);
            error("0;0", 1);
        });
        edges.test("all rows with as many numbers as the first one", () -> {
            loads("1,2/3,4", 24);
            error("1/2,", 3);
            refuses("1/2,3");
            error("1,2/3/", 5);
            refuses("1,2/3");
            refuses("1,2/3/4");
            error("1,2/3,4,", 7);
            refuses("1,2/3,4,5");
            error("1,2,3/4,5/", 9);
            error("1,2/3,4/5,6,", 11);
            error("1,2/3,4/5/", 9);
            loads("1,2,3,4,5,6,7,8,9,0/1,2,3,4,5,6,7,8,9,0", 32);
            error("1,2,3,4,5,6,7,8,9,0/1,2,3,4,5,6,7,8,9/", 37);
        });
        edges.test("a number is from 0 to 9999, without leading zeros", () -> {
            for (String number : new String[] {"0", "1", "9", "10", "99", "100", "999", "1000", "9999"}) {
                LeastRows x = Made.typed("1," + number);
                Check.equal("load()", x.load(), 13);
                Check.equal("cell(0, 1)", x.cell(0, 1), Integer.parseInt(number));
            }
            error("10000", 4);
            error("99990", 4);
            error("00", 1);
            error("01", 1);
            error("1,00", 3);
            error("1/01", 3);
            error("0000", 1);
            error("-1", 0);
            error("+1", 0);
            error("1.0", 1);
            refuses("10000");
            refuses("00");
            refuses("01");
            refuses("1,09");
        });
        edges.test("a character is a syntax error if no table as a text, of any length, begins with the characters "
            + "before it and this character", () -> {
            // No table that begins so ends within the buffer.
            error("1,2,3,4,5,6,7,8,9,10/1,2,3,4,5,6,7,8,9,10/1,2,3,4,5,6,7,8,9,", 60);
            error("9999,9999,9999,9999,9999,9999,9999,9999,9999,9999/9999,9999/", 59);
            error("9999,9999,9999,9999,9999,9999,9999,9999,9999,9999/9999,9999,", 60);
            error("9999,9999,9999,9999,9999,9999,9999,9999,9999,9999/9999,99999", 59);
        });
        edges.test("The buffer is read from left to right", () -> {
            error("x1,2", 0);
            error("1,x,/", 2);
            error("1/2,3,4", 3);
            error("!!", 0);
        });
    }

    private void follow() {
        edges.test("a character is a syntax error", () -> {
            onlyThese("", DIGITS);
            onlyThese("0", ",/");
            onlyThese("1", DIGITS + ",/");
            onlyThese("100", DIGITS + ",/");
            onlyThese("1000", ",/");
            onlyThese("9999", ",/");
            onlyThese("1,", DIGITS);
            onlyThese("1/", DIGITS);
            onlyThese("1/2", DIGITS + "/");
            onlyThese("1/0", "/");
            onlyThese("1/9999", "/");
            onlyThese("1,2/", DIGITS);
            onlyThese("1,2/3", DIGITS + ",");
            onlyThese("1,2/0", ",");
            onlyThese("1,2/9999", ",");
            onlyThese("1,2/3,", DIGITS);
            onlyThese("1,2/3,4", DIGITS + "/");
            onlyThese("1,2/3,0", "/");
            onlyThese("1,2/3,4/5", DIGITS + ",");
            onlyThese(TEN_COLUMNS, DIGITS);
            onlyThese(TEN_COLUMNS + "1", DIGITS + "/");
            onlyThese(TEN_COLUMNS + "0", "/");
            onlyThese(TEN_ROWS, DIGITS);
            onlyThese(TEN_ROWS + "1", DIGITS);
            onlyThese(TEN_ROWS + "9999", "");
            onlyThese(TEN_ROWS + "0", "");
            onlyThese("0/0/0/0/0/0/0/0/0", "/");
            onlyThese("0,0/0,0/0,0/0,0/0,0/0,0/0,0/0,0/0,0/0", ",");
            onlyThese("0,0/0,0/0,0/0,0/0,0/0,0/0,0/0,0/0,0/0,1", DIGITS);
        });
    }

    private void append() {
        edges.section("Promise 9: append");
        edges.test("Appends a character to the buffer.", () ->
            Edges.onlyBuffer("append(48)", x -> x.append(48), WITH_ROOM));
        edges.test("`code`: the character code, 33 to 126", () ->
            Edges.range("append(code)", 33, 126, Edges.ARGUMENT, (x, code) -> x.append(code), WITH_ROOM));
        edges.test("Returns the new length of the buffer.", () -> {
            Check.equal("append(33) of none", new LeastRows().append(33), 1);
            Check.equal("append(126) of 59", Made.typed(Made.FULL_TEXT.substring(1)).append(126), 60);
        });
        edges.test("Throws `IllegalArgumentException` if code is not 33 to 126", () -> {
            // The exception that is named first, where the buffer is full, too.
            for (int bad : Edges.outside(33, 126)) {
                Edges.refused("append(" + bad + ")", Edges.ARGUMENT, x -> x.append(bad), Made.FULL);
            }
            // Codes that a character of Java would take for 48.
            Edges.refused("append(48 + 65536)", Edges.ARGUMENT, x -> x.append(48 + 65536));
            Edges.refused("append(48 + 256)", Edges.ARGUMENT, x -> x.append(48 + 256));
        });
        edges.test("Throws `IllegalStateException` if the buffer has 60 characters", () -> {
            Edges.refused("append(33)", Edges.STATE, x -> x.append(33), Made.FULL);
            Edges.refused("append(126)", Edges.STATE, x -> x.append(126), Made.FULL);
        });
    }

    private void clearBuffer() {
        edges.section("Promise 10: clearBuffer");
        edges.test("Clears the buffer.", () -> {
            Edges.onlyBuffer("clearBuffer()", x -> x.clearBuffer());
            LeastRows x = Made.FULL.make();
            x.clearBuffer();
            Check.equal("firstError()", x.firstError(), 0);
            Check.equal("append(48)", x.append(48), 1);
            Check.equal("load()", x.load(), 12);
            Edges.onlyAsks("clearBuffer() of none", y -> y.clearBuffer(), Made.FRESH);
        });
        edges.test("Returns the length that it had.", () -> {
            Check.equal("clearBuffer() of none", new LeastRows().clearBuffer(), 0);
            Check.equal("clearBuffer() of one", Made.typed("x").clearBuffer(), 1);
            LeastRows x = Made.FULL.make();
            Check.equal("clearBuffer() of 60", x.clearBuffer(), 60);
            Check.equal("clearBuffer() once more", x.clearBuffer(), 0);
        });
    }

    private void firstError() {
        edges.section("Promise 11: firstError");
        edges.test("Finds the first syntax error of the buffer.", () -> {
            Edges.onlyAsks("firstError()", x -> x.firstError());
            Edges.onlyAsks("firstError() of errors", x -> x.firstError(), () -> Made.typed("1,,x/"));
        });
        edges.test("Returns the index of the first character that is a syntax error", () -> {
            error("x", 0);
            error(Made.FULL_TEXT.substring(0, 59) + ",", 59);
            error(Made.FULL_TEXT.substring(0, 59) + "x", 59);
            error("x" + Made.FULL_TEXT.substring(1), 0);
            error("0" + Made.FULL_TEXT.substring(0, 59), 1);
            error("1x2x", 1);
        });
        edges.test("the length of the buffer if there is none", () -> {
            error("", 0);
            error("0", 1);
            error(Made.FULL_TEXT, 60);
            for (int length = 0; length <= 60; length++) {
                error(Made.FULL_TEXT.substring(0, length), length);
            }
        });
    }

    private void load() {
        edges.section("Promise 12: load");
        edges.test("Takes the table of the buffer in place of the one that is", () -> {
            LeastRows x = Made.FULL.make();
            x.load();
            for (int row = 0; row < 3; row++) {
                for (int column = 0; column < 10; column++) {
                    Check.equal("a cell", x.cell(row, column), row == 2 && column == 9 ? 10 : (column + 1) % 10);
                }
            }
            Check.equal("count(0)", x.count(0), 3);
            Check.equal("count(1)", x.count(1), 10);
        });
        edges.test("(cells outside of it keep what they hold)", () -> {
            LeastRows x = Made.sized(3, 3);
            x.put(0, 2, 12);
            x.put(2, 0, 20);
            x.put(1, 1, 11);
            Made.type(x, "5,6").load();
            x.size(3, 3);
            int[] due = {5, 6, 12, 0, 11, 0, 20, 0, 0};
            for (int i = 0; i < 9; i++) {
                Check.equal("a cell", x.cell(i / 3, i % 3), due[i]);
            }
        });
        edges.test("and clears the buffer", () -> {
            LeastRows x = Made.FULL.make();
            x.load();
            Check.equal("clearBuffer()", x.clearBuffer(), 0);
            Made.type(x, "3").load();
            x.undo();
            Check.equal("clearBuffer() behind undo()", x.clearBuffer(), 0);
        });
        edges.test("Undoable.", () -> {
            Edges.undoable("load()", x -> x.load(), Made.BROKEN, Made.FULL, () -> Made.typed("0"));
            Edges.undoable("load() of the same table", x -> x.load(), () -> Made.type(Made.table("4,5"), "4,5"));
        });
        edges.test("Returns 11 times its rows, and its columns, together.", () -> {
            loads("9999", 12);
            loads(TEN_ROWS + "9999", 111);
            loads(TEN_COLUMNS + "9999", 21);
            loads(Made.FULL_TEXT, 43);
            loads("0,0,0/0,0,0/0,0,0/0,0,0/0,0,0/0,0,0/0,0,0/0,0,0/0,0,0/0,0,10", 113);
        });
        edges.test("Throws `IllegalArgumentException` if the buffer does not tell a table as a text", () -> {
            refuses("");
            Edges.refused("load()", Edges.ARGUMENT, x -> x.load(), Made.FRESH, Made.BUSY);
            String text = "10,2/3,45/6,7";
            String whole = "1 10 10,2 10,2/3,4 10,2/3,45 10,2/3,45/6,7";
            for (int length = 0; length <= text.length(); length++) {
                String begun = text.substring(0, length);
                if (length > 0 && (" " + whole + " ").contains(" " + begun + " ")) {
                    Check.holds("load() of " + begun, Made.typed(begun).load() > 0);
                } else {
                    refuses(begun);
                }
            }
            refuses("1,2/3,4x");
            refuses("x1,2/3,4");
            refuses("1,2/3,4/");
            refuses("1,2/3,4,");
            refuses(Made.FULL_TEXT.substring(0, 59) + "/");
            refuses(Made.FULL_TEXT.substring(0, 58));
        });
    }
}
