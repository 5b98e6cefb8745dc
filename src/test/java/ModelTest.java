/** Long mixed runs of calls, each answer and each digest held against the model. */
public final class ModelTest {
    // What an object answers behind them is free.
    private static final int MOST_CALLS = 512;
    // A text of 12 characters with firstError() behind each, load(), clearBuffer(), and digest().
    private static final int MOST_OF_STEP = 27;

    private static long seed = 1;
    private static int calls = 0;

    private static int upTo(int most) {
        seed = seed * 6364136223846793005L + 1442695040888963407L;
        return (int) ((seed >>> 33) % (most + 1));
    }

    private static final int[] ODD = {Integer.MIN_VALUE, -2147483647, -100, -2, -1, 0, 1, 2, 3, 9, 10, 11, 32, 33,
        50, 51, 60, 99, 100, 126, 127, 9998, 9999, 10000, 999999, 1000000, 214748365, 429496730, Integer.MAX_VALUE};

    /** Mostly a good argument, at times one at the edge or far beyond it. */
    private static int around(int least, int most) {
        int kind = upTo(19);
        if (kind == 0) {
            return ODD[upTo(ODD.length - 1)];
        }
        if (kind == 1) {
            return upTo(1) == 0 ? least - 1 : most + 1;
        }
        if (kind == 2) {
            return upTo(1) == 0 ? least : most;
        }
        return least + upTo(most - least);
    }

    private static final String CODES = "0123456789,,,,,///";

    private interface Answer {
        long tell();
    }

    private static String told(Answer answer) {
        try {
            return Long.toString(answer.tell());
        } catch (RuntimeException e) {
            return e.getClass().getName();
        }
    }

    private static void both(String call, Answer ours, Answer due) {
        calls++;
        String got = told(ours);
        String want = told(due);
        Check.holds(call + " answered " + got + ", due is " + want, got.equals(want));
    }

    public static void main(String[] args) {
        for (int run = 0; run < 150; run++) {
            runOnce(run);
        }
        for (int run = 0; run < 150; run++) {
            runTexts(run);
        }
        for (int run = 0; run < 300; run++) {
            runKeptTables(run);
        }
        Check.end();
    }

    private static void runOnce(int run) {
        LeastRows x = new LeastRows();
        Model m = new Model();
        seed = 1000 + run;
        calls = 0;
        while (calls <= MOST_CALLS - MOST_OF_STEP) {
            step("run " + run + ", behind " + calls + " calls: ", x, m);
            both("run " + run + ", behind " + calls + " calls: digest()", x::digest, m::digest);
        }
        while (calls < MOST_CALLS) {
            both("run " + run + ", behind " + calls + " calls: undo()", x::undo, m::undo);
        }
    }

    private static void step(String at, LeastRows x, Model m) {
        int kind = upTo(27);
        if (kind < 14) {
            change(at, x, m, kind);
        } else {
            ask(at, x, m, kind);
        }
    }

    private static void change(String at, LeastRows x, Model m, int kind) {
        int rows = m.count(0);
        int columns = m.count(1);
        int slot = around(0, 1);
        switch (kind) {
            case 0: {
                int r = around(1, 10);
                int c = around(1, 10);
                both(at + "size(" + r + ", " + c + ")", () -> x.size(r, c), () -> m.size(r, c));
                break;
            }
            case 1:
            case 2: {
                int r = around(0, rows - 1);
                int c = around(0, columns - 1);
                int n = upTo(1) == 0 ? around(0, 9999) : upTo(5);
                both(at + "put(" + r + ", " + c + ", " + n + ")", () -> x.put(r, c, n), () -> m.put(r, c, n));
                break;
            }
            case 3: {
                int a = around(0, 50);
                int b = around(0, 9);
                int c = around(0, 50);
                int d = around(0, 9);
                both(at + "points(" + a + ", " + b + ", " + c + ", " + d + ")", () -> x.points(a, b, c, d),
                    () -> m.points(a, b, c, d));
                break;
            }
            case 4:
            case 5:
                both(at + "mend()", x::mend, m::mend);
                break;
            case 6: {
                int way = around(0, 2);
                both(at + "find(" + way + ")", () -> x.find(way), () -> m.find(way));
                break;
            }
            case 7:
            case 8: {
                int w = upTo(1) == 0 ? around(1, 99) : 1 + upTo(3);
                both(at + "weigh(" + w + ")", () -> x.weigh(w), () -> m.weigh(w));
                break;
            }
            case 9:
                both(at + "unweigh()", x::unweigh, m::unweigh);
                break;
            case 10:
                both(at + "keep(" + slot + ")", () -> x.keep(slot), () -> m.keep(slot));
                break;
            case 11:
                both(at + "goBack(" + slot + ")", () -> x.goBack(slot), () -> m.goBack(slot));
                break;
            case 12:
                both(at + "undo()", x::undo, m::undo);
                break;
            default:
                texts(at, x, m);
                break;
        }
    }

    private static void texts(String at, LeastRows x, Model m) {
        int count = upTo(12);
        for (int i = 0; i < count; i++) {
            int code = upTo(9) == 0 ? around(33, 126) : CODES.charAt(upTo(CODES.length() - 1));
            both(at + "append(" + code + ")", () -> x.append(code), () -> m.append(code));
            both(at + "firstError()", x::firstError, m::firstError);
        }
        both(at + "load()", x::load, m::load);
        if (upTo(2) == 0) {
            both(at + "clearBuffer()", x::clearBuffer, m::clearBuffer);
        }
    }

    private static void ask(String at, LeastRows x, Model m, int kind) {
        int row = around(0, m.count(0) - 1);
        int column = around(0, m.count(1) - 1);
        int way = around(0, 2);
        int parts = around(1, m.count(2));
        switch (kind) {
            case 14:
                both(at + "cell(" + row + ", " + column + ")", () -> x.cell(row, column), () -> m.cell(row, column));
                break;
            case 15:
                both(at + "place(" + row + ", " + way + ")", () -> x.place(row, way), () -> m.place(row, way));
                break;
            case 16:
                both(at + "looks(" + way + ")", () -> x.looks(way), () -> m.looks(way));
                break;
            case 17:
                both(at + "bound()", x::bound, m::bound);
                break;
            case 18: {
                int what = around(0, 3);
                both(at + "witness(" + what + ")", () -> x.witness(what), () -> m.witness(what));
                break;
            }
            case 19: {
                int what = around(0, 8);
                both(at + "count(" + what + ")", () -> x.count(what), () -> m.count(what));
                break;
            }
            case 20: {
                int number = around(0, m.count(2) - 1);
                both(at + "weight(" + number + ")", () -> x.weight(number), () -> m.weight(number));
                break;
            }
            case 21: {
                int what = around(0, 1);
                both(at + "cost(" + parts + ", " + what + ")", () -> x.cost(parts, what), () -> m.cost(parts, what));
                break;
            }
            case 22:
            case 23: {
                int cut = around(0, 9);
                both(at + "cut(" + parts + ", " + cut + ")", () -> x.cut(parts, cut), () -> m.cut(parts, cut));
                break;
            }
            case 24:
            case 25: {
                int most = upTo(1) == 0 ? around(1, 999999) : m.cost(1 + upTo(m.count(2) - 1), 0) - upTo(1);
                both(at + "fewestParts(" + most + ")", () -> x.fewestParts(most), () -> m.fewestParts(most));
                break;
            }
            default:
                both(at + "halfShare()", () -> Double.doubleToLongBits(x.halfShare()),
                    () -> Double.doubleToLongBits(m.halfShare()));
                break;
        }
    }

    /** Texts that are tables, or tables with one character changed. */
    private static void runTexts(int run) {
        LeastRows x = new LeastRows();
        Model m = new Model();
        seed = 2000 + run;
        for (int i = 0; i < 7; i++) {
            String text = someText();
            String at = "text run " + run + " \"" + text + "\": ";
            for (int k = 0; k < text.length(); k++) {
                int code = text.charAt(k);
                both(at + "append", () -> x.append(code), () -> m.append(code));
            }
            both(at + "firstError()", x::firstError, m::firstError);
            both(at + "load()", x::load, m::load);
            both(at + "digest()", x::digest, m::digest);
            both(at + "undo()", x::undo, m::undo);
            both(at + "digest() behind undo()", x::digest, m::digest);
            both(at + "clearBuffer()", x::clearBuffer, m::clearBuffer);
        }
    }

    private static String someText() {
        int rows = 1 + upTo(10);
        int columns = 1 + upTo(10);
        int most = new int[] {9, 99, 9999, 12}[upTo(3)];
        StringBuilder text = new StringBuilder();
        for (int r = 0; r < rows; r++) {
            for (int c = 0; c < columns; c++) {
                text.append(c == 0 ? r == 0 ? "" : "/" : ",").append(upTo(most));
            }
        }
        if (upTo(2) == 0) {
            text.setCharAt(upTo(text.length() - 1), CODES.charAt(upTo(CODES.length() - 1)));
        }
        text.setLength(Math.min(60, text.length()));
        return text.toString();
    }

    /** Tables that keep the rule without being squares: with u and v and what each corner takes away. */
    private static void runKeptTables(int run) {
        LeastRows x = new LeastRows();
        Model m = new Model();
        seed = 3000 + run;
        int rows = 1 + upTo(9);
        int columns = 1 + upTo(9);
        int spread = new int[] {1, 3, 12, 60}[upTo(3)];
        x.size(rows, columns);
        m.size(rows, columns);
        int[] v = new int[10];
        for (int c = 0; c < columns; c++) {
            v[c] = 3000 + upTo(2 * spread) + c * spread * upTo(1);
        }
        int[][] taken = new int[11][11];
        for (int r = 0; r < rows; r++) {
            int u = upTo(spread);
            for (int c = 0; c < columns; c++) {
                int corner = upTo(2) == 0 ? upTo(spread) : 0;
                taken[r + 1][c + 1] = taken[r][c + 1] + taken[r + 1][c] - taken[r][c] + corner;
                int number = Math.max(0, Math.min(9999, v[c] + u - taken[r + 1][c + 1]));
                x.put(r, c, number);
                m.put(r, c, number);
            }
        }
        for (int way = 0; way < 3; way++) {
            int w = way;
            both("kept run " + run + ": find(" + way + ")", () -> x.find(w), () -> m.find(w));
            for (int r = 0; r < rows; r++) {
                int row = r;
                both("kept run " + run + ": place(" + r + ", " + way + ")", () -> x.place(row, w),
                    () -> m.place(row, w));
                both("kept run " + run + ": place as by the way 0", () -> x.place(row, w), () -> m.place(row, 0));
            }
        }
        both("kept run " + run + ": witness(3)", () -> x.witness(3), () -> 0L);
        both("kept run " + run + ": digest()", x::digest, m::digest);
    }
}
