import java.util.ArrayDeque;
import java.util.ArrayList;
import java.util.Collections;
import java.util.Deque;
import java.util.List;

/** The document once more, told as plainly as the Java library lets it: what LeastRows is held against. */
final class Model {
    private static final int NONE = -1;

    private static final class State {
        int rows = 4;
        int columns = 4;
        int[][] cells = new int[10][10];
        List<Integer> weights = new ArrayList<>(List.of(1));
        int looks = 0;
        int finds = 0;
        int mends = 0;

        State copy() {
            State copy = new State();
            copy.rows = rows;
            copy.columns = columns;
            for (int r = 0; r < 10; r++) {
                copy.cells[r] = cells[r].clone();
            }
            copy.weights = new ArrayList<>(weights);
            copy.looks = looks;
            copy.finds = finds;
            copy.mends = mends;
            return copy;
        }
    }

    private State now = new State();
    private final Deque<State> saved = new ArrayDeque<>();
    private final State[] slots = new State[2];
    private String buffer = "";

    private int looked = 0;

    private void save() {
        saved.addLast(now.copy());
        if (saved.size() > 6) {
            saved.removeFirst();
        }
    }

    private static void demand(boolean good) {
        if (!good) {
            throw new IllegalArgumentException();
        }
    }

    private static void demandState(boolean good) {
        if (!good) {
            throw new IllegalStateException();
        }
    }

    private static void demandIndex(boolean good) {
        if (!good) {
            throw new IndexOutOfBoundsException();
        }
    }

    private static boolean within(int x, int least, int most) {
        return least <= x && x <= most;
    }

    int size(int rows, int columns) {
        demand(within(rows, 1, 10) && within(columns, 1, 10));
        save();
        int before = 11 * now.rows + now.columns;
        now.rows = rows;
        now.columns = columns;
        return before;
    }

    int put(int row, int column, int number) {
        demandIndex(within(row, 0, now.rows - 1) && within(column, 0, now.columns - 1));
        demand(within(number, 0, 9999));
        save();
        int before = now.cells[row][column];
        now.cells[row][column] = number;
        return before;
    }

    int points(int first, int step, int firstColumn, int stepColumn) {
        demand(within(first, 0, 50) && within(step, 0, 9) && within(firstColumn, 0, 50) && within(stepColumn, 0, 9));
        save();
        for (int r = 0, y = first; r < now.rows; r++, y += step) {
            for (int c = 0, x = firstColumn; c < now.columns; c++, x += stepColumn) {
                long square = (long) Math.pow(y - x, 2);
                now.cells[r][c] = square > 9999 ? 9999 : (int) square;
            }
        }
        return witnesses().isEmpty() ? 1 : 0;
    }

    private List<int[]> witnesses() {
        List<int[]> found = new ArrayList<>();
        for (int r = 0; r + 1 < now.rows; r++) {
            for (int c = 0; c < now.columns; c++) {
                for (int d = c + 1; d < now.columns; d++) {
                    int[] row = now.cells[r];
                    int[] next = now.cells[r + 1];
                    if (row[c] > row[d] && next[c] <= next[d]) {
                        found.add(new int[] {r, c, d});
                    }
                }
            }
        }
        return found;
    }

    int mend() {
        save();
        List<int[]> found = witnesses();
        if (found.isEmpty()) {
            return NONE;
        }
        int[] w = found.get(0);
        int[] next = now.cells[w[0] + 1];
        if (next[w[2]] == 9999) {
            return NONE;
        }
        next[w[1]] = next[w[2]] + 1;
        now.mends++;
        return w[0];
    }

    private int look(int row, int column) {
        looked++;
        return now.cells[row][column];
    }

    private int[] places(int way) {
        looked = 0;
        int[] places = new int[now.rows];
        List<Integer> rows = upTo(now.rows);
        List<Integer> columns = upTo(now.columns);
        if (way == 0) {
            for (int r : rows) {
                places[r] = leastOf(r, columns);
            }
        } else if (way == 1) {
            halve(places, 0, now.rows - 1, 0, now.columns - 1);
        } else {
            throwOut(places, rows, columns);
        }
        return places;
    }

    private static List<Integer> upTo(int count) {
        List<Integer> all = new ArrayList<>();
        for (int i = 0; i < count; i++) {
            all.add(i);
        }
        return all;
    }

    private int leastOf(int row, List<Integer> columns) {
        List<Integer> numbers = new ArrayList<>();
        for (int c : columns) {
            numbers.add(look(row, c));
        }
        return columns.get(numbers.indexOf(Collections.min(numbers)));
    }

    private void halve(int[] places, int a, int b, int p, int q) {
        if (a > b) {
            return;
        }
        int m = (a + b) / 2;
        places[m] = leastOf(m, upTo(now.columns).subList(p, q + 1));
        halve(places, a, m - 1, p, places[m]);
        halve(places, m + 1, b, places[m], q);
    }

    private void throwOut(int[] places, List<Integer> rows, List<Integer> columns) {
        if (rows.isEmpty()) {
            return;
        }
        List<Integer> pile = new ArrayList<>();
        for (int fresh : columns) {
            while (!pile.isEmpty()) {
                int k = pile.size();
                int row = rows.get(k - 1);
                int numberOfTop = look(row, pile.get(k - 1));
                int numberOfFresh = look(row, fresh);
                if (numberOfTop <= numberOfFresh) {
                    break;
                }
                pile.remove(k - 1);
            }
            if (pile.size() < rows.size()) {
                pile.add(fresh);
            }
        }
        List<Integer> odd = new ArrayList<>();
        for (int rank = 1; rank < rows.size(); rank += 2) {
            odd.add(rows.get(rank));
        }
        throwOut(places, odd, pile);
        for (int rank = 0; rank < rows.size(); rank += 2) {
            int from = rank == 0 ? 0 : pile.indexOf(places[rows.get(rank - 1)]);
            int to = rank + 1 == rows.size() ? pile.size() - 1 : pile.indexOf(places[rows.get(rank + 1)]);
            places[rows.get(rank)] = leastOf(rows.get(rank), pile.subList(from, to + 1));
        }
    }

    int find(int way) {
        demand(within(way, 0, 2));
        demandState(way == 0 || witnesses().isEmpty());
        save();
        places(way);
        now.looks += looked;
        now.finds++;
        return looked;
    }

    int weigh(int weight) {
        demand(within(weight, 1, 99));
        demandState(now.weights.size() < 10);
        save();
        now.weights.add(weight);
        return now.weights.size();
    }

    int unweigh() {
        demandState(now.weights.size() > 1);
        save();
        return now.weights.remove(now.weights.size() - 1);
    }

    int append(int code) {
        demand(within(code, 33, 126));
        demandState(buffer.length() < 60);
        buffer += (char) code;
        return buffer.length();
    }

    int clearBuffer() {
        int before = buffer.length();
        buffer = "";
        return before;
    }

    private static boolean isNumber(String text) {
        return text.matches("0|[1-9][0-9]{0,3}");
    }

    /** Whether a table as a text begins with these characters; if whole, whether they are one. */
    private static boolean isBegun(String text, boolean whole) {
        String[] rows = text.split("/", -1);
        if (rows.length > 10) {
            return false;
        }
        int columns = rows[0].split(",", -1).length;
        for (int r = 0; r < rows.length; r++) {
            String[] numbers = rows[r].split(",", -1);
            boolean open = r == rows.length - 1 && !whole;
            if (numbers.length > 10 || numbers.length > columns || numbers.length < columns && !open) {
                return false;
            }
            for (int c = 0; c < numbers.length; c++) {
                boolean last = open && c == numbers.length - 1;
                if (!isNumber(numbers[c]) && !(last && numbers[c].isEmpty())) {
                    return false;
                }
            }
        }
        return true;
    }

    int firstError() {
        for (int i = 0; i < buffer.length(); i++) {
            if (!isBegun(buffer.substring(0, i + 1), false)) {
                return i;
            }
        }
        return buffer.length();
    }

    int load() {
        demand(isBegun(buffer, true));
        save();
        String[] rows = buffer.split("/");
        for (int r = 0; r < rows.length; r++) {
            String[] numbers = rows[r].split(",");
            now.rows = rows.length;
            now.columns = numbers.length;
            for (int c = 0; c < numbers.length; c++) {
                now.cells[r][c] = Integer.parseInt(numbers[c]);
            }
        }
        buffer = "";
        return 11 * now.rows + now.columns;
    }

    int keep(int slot) {
        demand(within(slot, 0, 1));
        slots[slot] = now.copy();
        return now.rows;
    }

    int goBack(int slot) {
        demand(within(slot, 0, 1));
        demandState(slots[slot] != null);
        save();
        now = slots[slot].copy();
        return now.rows;
    }

    int undo() {
        demandState(!saved.isEmpty());
        now = saved.removeLast();
        return saved.size();
    }

    int cell(int row, int column) {
        demandIndex(within(row, 0, now.rows - 1) && within(column, 0, now.columns - 1));
        return now.cells[row][column];
    }

    int place(int row, int way) {
        demandIndex(within(row, 0, now.rows - 1));
        demand(within(way, 0, 2));
        return way != 0 && !witnesses().isEmpty() ? NONE : places(way)[row];
    }

    int looks(int way) {
        demand(within(way, 0, 2));
        if (way != 0 && !witnesses().isEmpty()) {
            return NONE;
        }
        places(way);
        return looked;
    }

    int bound() {
        int halvings = Integer.toBinaryString(now.rows).length();
        return (now.rows + now.columns) * halvings;
    }

    int witness(int what) {
        demand(within(what, 0, 3));
        List<int[]> found = witnesses();
        if (what == 3) {
            return found.size();
        }
        return found.isEmpty() ? NONE : found.get(0)[what];
    }

    int count(int what) {
        demand(within(what, 0, 8));
        int[] places = places(0);
        int back = 0;
        for (int r = 1; r < places.length; r++) {
            back += places[r] < places[r - 1] ? 1 : 0;
        }
        int[] all = {now.rows, now.columns, now.weights.size(), together(now.weights), now.looks, now.finds,
            now.mends, back, saved.size()};
        return all[what];
    }

    private static int together(List<Integer> weights) {
        return weights.stream().mapToInt(Integer::intValue).sum();
    }

    int weight(int number) {
        demandIndex(within(number, 0, now.weights.size() - 1));
        return now.weights.get(number);
    }

    /** All ways to cut, each as its cuts from the left. */
    private List<List<Integer>> waysToCut(int parts) {
        List<List<Integer>> ways = new ArrayList<>();
        addWays(ways, new ArrayList<>(), 1, parts - 1);
        return ways;
    }

    private void addWays(List<List<Integer>> ways, List<Integer> cuts, int from, int open) {
        if (open == 0) {
            ways.add(new ArrayList<>(cuts));
            return;
        }
        for (int cut = from; cut < now.weights.size(); cut++) {
            cuts.add(cut);
            addWays(ways, cuts, cut + 1, open - 1);
            cuts.remove(cuts.size() - 1);
        }
    }

    private int costOf(List<Integer> cuts) {
        int cost = 0;
        int from = 0;
        for (int i = 0; i <= cuts.size(); i++) {
            int to = i < cuts.size() ? cuts.get(i) : now.weights.size();
            int part = together(now.weights.subList(from, to));
            cost += part * part;
            from = to;
        }
        return cost;
    }

    private boolean isAhead(List<Integer> cuts, List<Integer> others) {
        if (costOf(cuts) != costOf(others)) {
            return costOf(cuts) < costOf(others);
        }
        for (int i = cuts.size() - 1; i >= 0; i--) {
            int order = Integer.compare(cuts.get(i), others.get(i));
            if (order != 0) {
                return order < 0;
            }
        }
        return false;
    }

    private List<Integer> firstWay(int parts) {
        List<Integer> best = null;
        for (List<Integer> cuts : waysToCut(parts)) {
            if (best == null || isAhead(cuts, best)) {
                best = cuts;
            }
        }
        return best;
    }

    int cost(int parts, int what) {
        demand(within(parts, 1, now.weights.size()) && within(what, 0, 1));
        return costOf(firstWay(parts));
    }

    int cut(int parts, int cut) {
        demand(within(parts, 1, now.weights.size()) && cut >= 0);
        List<Integer> cuts = firstWay(parts);
        return cut < cuts.size() ? cuts.get(cut) : NONE;
    }

    int fewestParts(int most) {
        demand(within(most, 1, 999999));
        for (int parts = 1; parts <= now.weights.size(); parts++) {
            if (cost(parts, 1) <= most) {
                return parts;
            }
        }
        return NONE;
    }

    double halfShare() {
        return witnesses().isEmpty() ? (double) looks(1) / looks(0) : 0.0;
    }

    long digest() {
        List<Long> values = new ArrayList<>();
        for (int what = 0; what < 9; what++) {
            values.add((long) count(what));
        }
        for (int r = 0; r < now.rows; r++) {
            for (int c = 0; c < now.columns; c++) {
                values.add((long) cell(r, c));
            }
        }
        for (int r = 0; r < now.rows; r++) {
            for (int way = 0; way < 3; way++) {
                values.add((long) place(r, way));
            }
        }
        for (int way = 0; way < 3; way++) {
            values.add((long) looks(way));
        }
        values.add((long) bound());
        for (int what = 0; what < 4; what++) {
            values.add((long) witness(what));
        }
        for (int weight : now.weights) {
            values.add((long) weight);
        }
        for (int parts = 1; parts <= now.weights.size(); parts++) {
            values.add((long) cost(parts, 0));
            values.add((long) cost(parts, 1));
            for (int cut : firstWay(parts)) {
                values.add((long) cut);
            }
        }
        values.add((long) fewestParts(1000));
        values.add(Double.doubleToLongBits(halfShare()));
        for (State slot : slots) {
            values.add(slot == null ? 0L : 1L);
        }
        values.add((long) buffer.length());
        for (char code : buffer.toCharArray()) {
            values.add((long) code);
        }
        long hash = 3613;
        for (long value : values) {
            hash = 31 * hash + value;
        }
        return hash;
    }
}
