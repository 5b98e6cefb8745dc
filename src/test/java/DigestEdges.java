import java.math.BigInteger;
import java.util.ArrayList;
import java.util.List;

/** The hash of the whole state, value by value. */
final class DigestEdges {
    private final Edges edges;

    DigestEdges(Edges edges) {
        this.edges = edges;
    }

    void run() {
        edges.section("Promise 27: digest");
        wholeState();
        arithmetic();
        values();
        lastValues();
    }

    /** The document's list, told by the face; what it can't tell is given. */
    private static List<Long> listed(LeastRows x, boolean isKept0, boolean isKept1, String buffer) {
        List<Long> values = new ArrayList<>();
        for (int what = 0; what <= 8; what++) {
            values.add((long) x.count(what));
        }
        int rows = x.count(0);
        int columns = x.count(1);
        for (int row = 0; row < rows; row++) {
            for (int column = 0; column < columns; column++) {
                values.add((long) x.cell(row, column));
            }
        }
        for (int row = 0; row < rows; row++) {
            for (int way = 0; way <= 2; way++) {
                values.add((long) x.place(row, way));
            }
        }
        for (int way = 0; way <= 2; way++) {
            values.add((long) x.looks(way));
        }
        values.add((long) x.bound());
        for (int what = 0; what <= 3; what++) {
            values.add((long) x.witness(what));
        }
        addWeights(values, x);
        values.add((long) x.fewestParts(1000));
        values.add(Double.doubleToLongBits(x.halfShare()));
        values.add(isKept0 ? 1L : 0L);
        values.add(isKept1 ? 1L : 0L);
        values.add((long) buffer.length());
        for (int i = 0; i < buffer.length(); i++) {
            values.add((long) buffer.charAt(i));
        }
        return values;
    }

    private static void addWeights(List<Long> values, LeastRows x) {
        int count = x.count(2);
        for (int i = 0; i < count; i++) {
            values.add((long) x.weight(i));
        }
        for (int parts = 1; parts <= count; parts++) {
            values.add((long) x.cost(parts, 0));
            values.add((long) x.cost(parts, 1));
            for (int cut = 0; cut < parts - 1; cut++) {
                values.add((long) x.cut(parts, cut));
            }
        }
    }

    private static BigInteger withoutOverflow(List<Long> values) {
        BigInteger hash = BigInteger.valueOf(3613);
        for (long value : values) {
            hash = hash.multiply(BigInteger.valueOf(31)).add(BigInteger.valueOf(value));
        }
        return hash;
    }

    /** It takes up to some 230 calls, so an object is asked twice at most. */
    private static void isDue(String what, LeastRows x, boolean isKept0, boolean isKept1, String buffer) {
        long got = x.digest();
        Check.equal("digest() of " + what, got, withoutOverflow(listed(x, isKept0, isKept1, buffer)).longValue());
    }

    private void wholeState() {
        edges.test("Computes a hash of the whole state.", () -> {
            Edges.onlyAsks("digest()", x -> x.digest());
            isDue("the fresh object", Made.FRESH.make(), false, false, "");
            isDue("the busy object", Made.BUSY.make(), false, true, Made.BUSY_TEXT);
            isDue("the broken object", Made.BROKEN.make(), true, false, Made.BROKEN_TEXT);
            isDue("the full object", Made.FULL.make(), true, true, Made.FULL_TEXT);
        });
        edges.test("Returns the hash.", () -> {
            long before = Made.FRESH.make().digest();
            LeastRows x = new LeastRows();
            Check.equal("the same state", x.digest(), before);
            x.size(10, 10);
            x.put(9, 9, 9999);
            x.undo();
            x.undo();
            Check.equal("the same state again", x.digest(), before);
        });
    }

    /** One cell and one weight: the shortest list, worked out by hand. */
    private static List<Long> ofOneCell(long number) {
        long one = Double.doubleToLongBits(1.0);
        long[] values = {1, 1, 1, 1, 0, 0, 0, 0, 1, number, 0, 0, 0, 1, 1, 1, 2, -1, -1, -1, 0, 1, 1, 1, 1, one,
            0, 0, 0};
        List<Long> list = new ArrayList<>();
        for (long value : values) {
            list.add(value);
        }
        return list;
    }

    private void arithmetic() {
        edges.test("The hash starts at 3613.", () -> {
            for (int number : new int[] {0, 9999}) {
                Check.equal("digest() of the cell " + number, Made.table("" + number).digest(),
                    withoutOverflow(ofOneCell(number)).longValue());
            }
        });
        edges.test("the hash becomes 31 * hash + v, in long arithmetic with overflow", () -> {
            boolean isBelow = false;
            boolean isAbove = false;
            for (int number = 0; number <= 20; number++) {
                BigInteger exact = withoutOverflow(ofOneCell(number));
                Check.holds("the hash does not overflow", exact.bitLength() > 64);
                long due = exact.longValue();
                Check.equal("digest() of the cell " + number, Made.table("" + number).digest(), due);
                isBelow |= due < 0;
                isAbove |= due > 0;
            }
            Check.holds("the hash overflows to both sides of 0", isBelow && isAbove);
        });
    }

    private static void differ(String what, LeastRows one, LeastRows other) {
        Check.holds(what + " is not in the hash", one.digest() != other.digest());
    }

    private void values() {
        edges.test("count(0) to count(8)", () -> {
            for (int saved = 0; saved <= 7; saved++) {
                LeastRows x = new LeastRows();
                for (int i = 0; i < saved; i++) {
                    x.size(4, 4);
                }
                isDue(saved + " calls saved", x, false, false, "");
            }
            for (int last = 0; last <= 2; last++) {
                LeastRows found = new LeastRows();
                for (int way = 0; way <= last; way++) {
                    found.find(way);
                }
                isDue("what is counted", found, false, false, "");
            }
            LeastRows mended = Made.table("1,0/0,0");
            mended.mend();
            isDue("what is mended", mended, false, false, "");
        });
        edges.test("each cell of the table, row by row; for each row its place by the ways 0 to 2", () -> {
            for (int rows = 1; rows <= 10; rows++) {
                for (int columns = 1; columns <= 10; columns++) {
                    LeastRows x = Made.sized(rows, columns);
                    x.points(columns, 3, rows, 4);
                    isDue(rows + " rows and " + columns + " columns", x, false, false, "");
                }
            }
            LeastRows hidden = Made.sized(10, 10);
            hidden.put(9, 9, 9999);
            hidden.size(3, 3);
            LeastRows twin = Made.sized(10, 10);
            twin.put(9, 9, 1);
            twin.size(3, 3);
            Check.equal("a cell outside of the table", hidden.digest(), twin.digest());
            differ("which of two cells it is", Made.table("0,1,2"), Made.table("0,2,1"));
        });
        edges.test("looks of the ways 0 to 2; bound; witness of 0 to 3", () -> {
            isDue("a kept table", Made.table("5,0,5/5,0,5/6,5,0"), false, false, "");
            isDue("a table with a witness", Made.table("5,0,5/5,0,5/5,5,0"), false, false, "");
        });
        edges.test("the weights; for each number of parts the cost with 0, then with 1, and its cuts", () -> {
            for (int count = 1; count <= 10; count++) {
                LeastRows x = new LeastRows();
                for (int i = 1; i < count; i++) {
                    x.weigh(i * 37 % 99 + 1);
                }
                isDue(count + " weights", x, false, false, "");
            }
        });
    }

    private void lastValues() {
        edges.test("fewestParts of 1000", () -> {
            // All alone they cost 1000, and 1001.
            LeastRows just = Made.weights(27, 16, 3, 2, 1);
            Check.equal("fewestParts(1000)", just.fewestParts(1000), 6);
            isDue("1000", just, false, false, "");
            LeastRows above = Made.weights(10, 30);
            Check.equal("fewestParts(1000)", above.fewestParts(1000), -1);
            isDue("1001", above, false, false, "");
        });
        edges.test("the bits of halfShare (as Double.doubleToLongBits)", () -> {
            for (int rows = 1; rows <= 10; rows++) {
                for (int columns = 1; columns <= 10; columns++) {
                    LeastRows x = Made.sized(rows, columns);
                    isDue("the share " + x.halfShare(), x, false, false, "");
                    x.points(0, 5, 10, 3);
                    isDue("the share " + x.halfShare(), x, false, false, "");
                }
            }
        });
        edges.test("for each slot 1 if it has a snapshot, otherwise 0", () -> {
            for (int kept = 0; kept <= 3; kept++) {
                LeastRows x = new LeastRows();
                if (kept % 2 == 1) {
                    x.keep(0);
                }
                if (kept / 2 == 1) {
                    x.keep(1);
                }
                isDue("the slots", x, kept % 2 == 1, kept / 2 == 1, "");
            }
            LeastRows other = Made.sized(4, 4);
            other.find(0);
            other.keep(0);
            other.undo();
            LeastRows twin = Made.sized(4, 4);
            twin.keep(0);
            Check.equal("what a snapshot holds", other.digest(), twin.digest());
        });
        edges.test("the length of the buffer and each of its character codes", () -> {
            StringBuilder text = new StringBuilder();
            for (int length = 0; length <= 60; length++) {
                isDue("a buffer of " + length, Made.typed(text.toString()), false, false, text.toString());
                text.append((char) (length == 0 ? 33 : 126 - length));
            }
            LeastRows cleared = Made.typed("!~");
            cleared.clearBuffer();
            isDue("a cleared buffer", cleared, false, false, "");
            differ("the order of the characters", Made.typed("!~"), Made.typed("~!"));
        });
    }
}
