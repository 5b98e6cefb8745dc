/**
 * The leftmost least number of each row in a table whose places never go back, found with few looks,
 * and rows of weights that are cut into parts at least cost.
 *
 * <p>All that a call needs is made once, with the object: a call makes nothing but the exception
 * that it throws.
 */
public final class LeastRows {
    public static final int NONE = -1;

    private static final int MOST_SIDE = 10;
    private static final int MOST_NUMBER = 9999;
    private static final int MOST_POINT = 50;
    private static final int MOST_STEP = 9;
    private static final int MOST_WEIGHTS = 10;
    private static final int MOST_WEIGHT = 99;
    private static final int MOST_COST_ASKED = 999999;
    private static final int MOST_CODES = 60;
    private static final int MOST_SAVED = 6;
    private static final int SLOTS = 2;
    private static final int WAYS = 3;
    private static final int BY_ALL = 0;
    private static final int BY_HALVES = 1;
    private static final int BY_THROWING_OUT = 2;

    private final State now = new State();
    private final Rule rule = new Rule(now);
    private final Finder finder = new Finder(now);
    private final Cutter cutter = new Cutter(now);
    private final Text text = new Text();
    private final History history = new History();
    private final Slot slotZero = new Slot();
    private final Slot slotOne = new Slot();

    public LeastRows() {
    }

    // ---- the table

    public int size(int rows, int columns) throws IllegalArgumentException {
        if (!isFromTo(rows, 1, MOST_SIDE) || !isFromTo(columns, 1, MOST_SIDE)) {
            throw new IllegalArgumentException("rows and columns are 1 to 10");
        }
        history.save(now);
        int before = now.sizeCode();
        now.rows = rows;
        now.columns = columns;
        return before;
    }

    public int put(int row, int column, int number)
            throws IndexOutOfBoundsException, IllegalArgumentException {
        if (!now.hasCell(row, column)) {
            throw new IndexOutOfBoundsException("there is no such cell");
        }
        if (!isFromTo(number, 0, MOST_NUMBER)) {
            throw new IllegalArgumentException("a number is 0 to 9999");
        }
        history.save(now);
        int before = now.numberAt(row, column);
        now.setNumber(row, column, number);
        return before;
    }

    public int points(int first, int step, int firstColumn, int stepColumn)
            throws IllegalArgumentException {
        if (!isFromTo(first, 0, MOST_POINT) || !isFromTo(step, 0, MOST_STEP)
                || !isFromTo(firstColumn, 0, MOST_POINT) || !isFromTo(stepColumn, 0, MOST_STEP)) {
            throw new IllegalArgumentException("points begin at 0 to 50, with steps of 0 to 9");
        }
        history.save(now);
        for (int row = 0; row < now.rows; row++) {
            for (int column = 0; column < now.columns; column++) {
                int between = first + step * row - (firstColumn + stepColumn * column);
                now.setNumber(row, column, Math.min(between * between, MOST_NUMBER));
            }
        }
        return rule.isKept() ? 1 : 0;
    }

    public int mend() {
        history.save(now);
        rule.examine();
        if (rule.witnesses == 0) {
            return NONE;
        }
        int number = now.numberAt(rule.row + 1, rule.right) + 1;
        if (number > MOST_NUMBER) {
            return NONE;
        }
        now.setNumber(rule.row + 1, rule.left, number);
        now.timesMended++;
        return rule.row;
    }

    // ---- finding

    public int find(int way) throws IllegalArgumentException, IllegalStateException {
        if (!isWay(way)) {
            throw new IllegalArgumentException("a way is 0 to 2");
        }
        if (!isOpen(way)) {
            throw new IllegalStateException("there is a witness against the rule");
        }
        history.save(now);
        finder.seek(way);
        int made = finder.looksBy(way);
        now.looksCounted += made;
        now.timesFound++;
        return made;
    }

    // ---- weights

    public int weigh(int weight) throws IllegalArgumentException, IllegalStateException {
        if (!isFromTo(weight, 1, MOST_WEIGHT)) {
            throw new IllegalArgumentException("a weight is 1 to 99");
        }
        if (now.weightCount >= MOST_WEIGHTS) {
            throw new IllegalStateException("there are 10 weights");
        }
        history.save(now);
        now.addWeight(weight);
        return now.weightCount;
    }

    public int unweigh() throws IllegalStateException {
        if (now.weightCount <= 1) {
            throw new IllegalStateException("there is only one weight");
        }
        history.save(now);
        now.weightCount--;
        return now.weightAt(now.weightCount);
    }

    // ---- texts, snapshots

    public int append(int code) throws IllegalArgumentException, IllegalStateException {
        if (!isFromTo(code, 33, 126)) {
            throw new IllegalArgumentException("a code is 33 to 126");
        }
        if (text.length >= MOST_CODES) {
            throw new IllegalStateException("the buffer has 60 characters");
        }
        text.add(code);
        return text.length;
    }

    public int clearBuffer() {
        int before = text.length;
        text.clear();
        return before;
    }

    public int firstError() {
        return text.readToError();
    }

    public int load() throws IllegalArgumentException {
        if (!text.tellsTable()) {
            throw new IllegalArgumentException("the buffer does not tell a table");
        }
        history.save(now);
        now.rows = text.rowsTold();
        now.columns = text.columnsTold();
        for (int row = 0; row < now.rows; row++) {
            for (int column = 0; column < now.columns; column++) {
                now.setNumber(row, column, text.numberTold(row, column));
            }
        }
        text.clear();
        return now.sizeCode();
    }

    public int keep(int slot) throws IllegalArgumentException {
        if (!isFromTo(slot, 0, SLOTS - 1)) {
            throw new IllegalArgumentException("a slot is 0 or 1");
        }
        slotAt(slot).fillFrom(now);
        return now.rows;
    }

    public int goBack(int slot) throws IllegalArgumentException, IllegalStateException {
        if (!isFromTo(slot, 0, SLOTS - 1)) {
            throw new IllegalArgumentException("a slot is 0 or 1");
        }
        Slot chosen = slotAt(slot);
        if (!chosen.isFilled) {
            throw new IllegalStateException("there is no snapshot in the slot");
        }
        history.save(now);
        now.copyFrom(chosen.snapshot);
        return now.rows;
    }

    public int undo() throws IllegalStateException {
        if (history.count == 0) {
            throw new IllegalStateException("there is no saved state");
        }
        now.copyFrom(history.latest());
        history.count--;
        return history.count;
    }

    // ---- looks at the state; nothing is changed, and no looks are counted

    public int cell(int row, int column) throws IndexOutOfBoundsException {
        if (!now.hasCell(row, column)) {
            throw new IndexOutOfBoundsException("there is no such cell");
        }
        return now.numberAt(row, column);
    }

    public int place(int row, int way) throws IndexOutOfBoundsException, IllegalArgumentException {
        if (!isFromTo(row, 0, now.rows - 1)) {
            throw new IndexOutOfBoundsException("there is no such row");
        }
        if (!isWay(way)) {
            throw new IllegalArgumentException("a way is 0 to 2");
        }
        if (!isOpen(way)) {
            return NONE;
        }
        finder.seek(way);
        return finder.placeBy(way, row);
    }

    public int looks(int way) throws IllegalArgumentException {
        if (!isWay(way)) {
            throw new IllegalArgumentException("a way is 0 to 2");
        }
        if (!isOpen(way)) {
            return NONE;
        }
        finder.seek(way);
        return finder.looksBy(way);
    }

    public int bound() {
        int halvings = 0;
        for (int rows = now.rows; rows > 0; rows = rows / 2) {
            halvings++;
        }
        return (now.rows + now.columns) * halvings;
    }

    public int witness(int what) throws IllegalArgumentException {
        if (!isFromTo(what, 0, 3)) {
            throw new IllegalArgumentException("what is 0 to 3");
        }
        rule.examine();
        return rule.told(what);
    }

    public int count(int what) throws IllegalArgumentException {
        if (!isFromTo(what, 0, 8)) {
            throw new IllegalArgumentException("what is 0 to 8");
        }
        return counted(what);
    }

    public int weight(int number) throws IndexOutOfBoundsException {
        if (!isFromTo(number, 0, now.weightCount - 1)) {
            throw new IndexOutOfBoundsException("there is no such weight");
        }
        return now.weightAt(number);
    }

    // ---- cutting; nothing is changed

    public int cost(int parts, int what) throws IllegalArgumentException {
        if (!isFromTo(parts, 1, now.weightCount) || !isFromTo(what, 0, 1)) {
            throw new IllegalArgumentException("there are not so many parts, or what is not 0 or 1");
        }
        if (what == 0) {
            cutter.planCuts();
            return cutter.plannedCost(parts);
        }
        cutter.tryAllCuts();
        return cutter.triedCost(parts);
    }

    public int cut(int parts, int cut) throws IllegalArgumentException {
        if (!isFromTo(parts, 1, now.weightCount) || cut < 0) {
            throw new IllegalArgumentException("there are not so many parts, or a cut is below 0");
        }
        if (cut >= parts - 1) {
            return NONE;
        }
        cutter.planCuts();
        return cutter.plannedCut(parts, cut);
    }

    public int fewestParts(int most) throws IllegalArgumentException {
        if (!isFromTo(most, 1, MOST_COST_ASKED)) {
            throw new IllegalArgumentException("a cost is 1 to 999999");
        }
        cutter.planCuts();
        return cutter.fewestPartsFor(most);
    }

    public double halfShare() {
        if (!rule.isKept()) {
            return 0.0;
        }
        finder.seek(BY_ALL);
        finder.seek(BY_HALVES);
        return finder.shareOfHalves();
    }

    public long digest() {
        long hash = 3613;
        for (int what = 0; what <= 8; what++) {
            hash = mixed(hash, counted(what));
        }
        hash = mixedCells(hash);
        seekByAllWays();
        hash = mixedPlaces(hash);
        hash = mixedWeights(hash);
        hash = mixed(hash, bitsOf(halfShare()));
        hash = mixed(hash, slotZero.isFilled ? 1 : 0);
        hash = mixed(hash, slotOne.isFilled ? 1 : 0);
        hash = mixed(hash, text.length);
        for (int i = 0; i < text.length; i++) {
            hash = mixed(hash, text.codeAt(i));
        }
        return hash;
    }

    // ---- what the calls of the face share

    private static boolean isFromTo(int number, int least, int most) {
        return number >= least && number <= most;
    }

    private static boolean isWay(int way) {
        return isFromTo(way, 0, WAYS - 1);
    }

    /** Halving and throwing out go wrong on a table that breaks the rule, so they are shut then. */
    private boolean isOpen(int way) {
        return way == BY_ALL || rule.isKept();
    }

    private Slot slotAt(int slot) {
        return slot == 0 ? slotZero : slotOne;
    }

    private int counted(int what) {
        switch (what) {
            case 0:
                return now.rows;
            case 1:
                return now.columns;
            case 2:
                return now.weightCount;
            case 3:
                return now.weightsTogether();
            case 4:
                return now.looksCounted;
            case 5:
                return now.timesFound;
            case 6:
                return now.timesMended;
            case 7:
                finder.seek(BY_ALL);
                return finder.placesGoneBack();
            default:
                return history.count;
        }
    }

    private static long mixed(long hash, long value) {
        return 31 * hash + value;
    }

    private long mixedCells(long start) {
        long hash = start;
        for (int row = 0; row < now.rows; row++) {
            for (int column = 0; column < now.columns; column++) {
                hash = mixed(hash, now.numberAt(row, column));
            }
        }
        return hash;
    }

    private void seekByAllWays() {
        rule.examine();
        for (int way = 0; way < WAYS; way++) {
            if (way == BY_ALL || rule.witnesses == 0) {
                finder.seek(way);
            } else {
                finder.tellNothing(way);
            }
        }
    }

    private long mixedPlaces(long start) {
        long hash = start;
        for (int row = 0; row < now.rows; row++) {
            for (int way = 0; way < WAYS; way++) {
                hash = mixed(hash, finder.placeBy(way, row));
            }
        }
        for (int way = 0; way < WAYS; way++) {
            hash = mixed(hash, finder.looksBy(way));
        }
        hash = mixed(hash, bound());
        for (int what = 0; what <= 3; what++) {
            hash = mixed(hash, rule.told(what));
        }
        return hash;
    }

    private long mixedWeights(long start) {
        long hash = start;
        for (int i = 0; i < now.weightCount; i++) {
            hash = mixed(hash, now.weightAt(i));
        }
        cutter.planCuts();
        cutter.tryAllCuts();
        for (int parts = 1; parts <= now.weightCount; parts++) {
            hash = mixed(hash, cutter.plannedCost(parts));
            hash = mixed(hash, cutter.triedCost(parts));
            for (int cut = 0; cut < parts - 1; cut++) {
                hash = mixed(hash, cutter.plannedCut(parts, cut));
            }
        }
        return mixed(hash, cutter.fewestPartsFor(1000));
    }

    /**
     * The bits of a share from 0 to 1, as Double.doubleToLongBits tells them: the language of this
     * file has no call for them, so they are put together from the exponent and the fraction.
     */
    private static long bitsOf(double share) {
        if (!(share > 0.0)) {
            return 0L;
        }
        double scaled = share;
        long exponent = 1023;
        for (int i = 0; i < 1022 && scaled < 1.0; i++) {
            scaled = scaled * 2.0;
            exponent--;
        }
        long fraction = (long) ((scaled - 1.0) * 4503599627370496.0);
        return (exponent << 52) + fraction;
    }

    /** Outside of a list there are zeros, so that no index can make the machine throw. */
    private static int numberIn(int[] list, int index) {
        return list == null || index < 0 || index >= list.length ? 0 : list[index];
    }

    private static void setIn(int[] list, int index, int number) {
        if (list != null && index >= 0 && index < list.length) {
            list[index] = number;
        }
    }

    private static void copyAll(int[] from, int[] to) {
        if (from == null || to == null) {
            return;
        }
        for (int i = 0; i < from.length && i < to.length; i++) {
            to[i] = from[i];
        }
    }

    /** All that a snapshot holds: the table, the weights, and what is counted. */
    private static final class State {
        int rows = 4;
        int columns = 4;
        int weightCount = 1;
        int looksCounted = 0;
        int timesFound = 0;
        int timesMended = 0;
        private final int[] cells = new int[MOST_SIDE * MOST_SIDE];
        private final int[] weights = new int[MOST_WEIGHTS];

        State() {
            setIn(weights, 0, 1);
        }

        boolean hasCell(int row, int column) {
            return isFromTo(row, 0, rows - 1) && isFromTo(column, 0, columns - 1);
        }

        int sizeCode() {
            return 11 * rows + columns;
        }

        int numberAt(int row, int column) {
            int spot = row * MOST_SIDE + column;
            return spot < 0 || spot >= cells.length ? 0 : cells[spot];
        }

        void setNumber(int row, int column, int number) {
            setIn(cells, row * MOST_SIDE + column, number);
        }

        int weightAt(int number) {
            return numberIn(weights, number);
        }

        void addWeight(int weight) {
            setIn(weights, weightCount, weight);
            weightCount++;
        }

        int weightsTogether() {
            int together = 0;
            for (int i = 0; i < weightCount; i++) {
                together += weightAt(i);
            }
            return together;
        }

        void copyFrom(State other) {
            if (other == null) {
                return;
            }
            rows = other.rows;
            columns = other.columns;
            weightCount = other.weightCount;
            looksCounted = other.looksCounted;
            timesFound = other.timesFound;
            timesMended = other.timesMended;
            copyAll(other.cells, cells);
            copyAll(other.weights, weights);
        }
    }

    /** The rule that rows and columns keep or break, with the first witness against it. */
    private static final class Rule {
        int row = NONE;
        int left = NONE;
        int right = NONE;
        int witnesses = 0;
        private final State table;

        Rule(State table) {
            this.table = table;
        }

        boolean isKept() {
            examine();
            return witnesses == 0;
        }

        void examine() {
            row = NONE;
            left = NONE;
            right = NONE;
            witnesses = 0;
            for (int r = 0; r < table.rows - 1; r++) {
                for (int c = 0; c < table.columns - 1; c++) {
                    for (int d = c + 1; d < table.columns; d++) {
                        if (isGreater(r, c, d) && !isGreater(r + 1, c, d)) {
                            note(r, c, d);
                        }
                    }
                }
            }
        }

        int told(int what) {
            switch (what) {
                case 0:
                    return row;
                case 1:
                    return left;
                case 2:
                    return right;
                default:
                    return witnesses;
            }
        }

        private boolean isGreater(int r, int c, int d) {
            return table.numberAt(r, c) > table.numberAt(r, d);
        }

        private void note(int r, int c, int d) {
            if (witnesses == 0) {
                row = r;
                left = c;
                right = d;
            }
            witnesses++;
        }
    }

    /** Finds the places of all rows by a way, and counts the looks of this way. */
    private static final class Finder {
        // The rows of the level 0 are all; those of each further level are every second one of
        // the level before it. 10 rows are gone after 4 levels.
        private static final int LEVELS = 4;

        private final State table;
        private final int[] places = new int[WAYS * MOST_SIDE];
        private final int[] looksMade = new int[WAYS];
        // The list 0 has all columns; each further list has those that a level leaves.
        private final int[] left = new int[(LEVELS + 1) * MOST_SIDE];
        private final int[] leftCount = new int[LEVELS + 1];
        private int way = BY_ALL;
        private int looksNow = 0;

        Finder(State table) {
            this.table = table;
        }

        void seek(int chosenWay) {
            way = chosenWay;
            looksNow = 0;
            leaveAllColumns();
            if (way == BY_HALVES) {
                halve(this, 0, table.rows - 1, 0, table.columns - 1, 0);
            } else if (way == BY_THROWING_OUT) {
                for (int level = 0; level < LEVELS; level++) {
                    pileColumns(level);
                }
                for (int level = LEVELS - 1; level >= 0; level--) {
                    fillBetween(level);
                }
            } else {
                lookAtAll();
            }
            setIn(looksMade, way, looksNow);
        }

        void tellNothing(int chosenWay) {
            for (int row = 0; row < MOST_SIDE; row++) {
                setIn(places, chosenWay * MOST_SIDE + row, NONE);
            }
            setIn(looksMade, chosenWay, NONE);
        }

        int looksBy(int chosenWay) {
            return numberIn(looksMade, chosenWay);
        }

        int placeBy(int chosenWay, int row) {
            return numberIn(places, chosenWay * MOST_SIDE + row);
        }

        int placesGoneBack() {
            int back = 0;
            for (int row = 1; row < table.rows; row++) {
                if (placeBy(BY_ALL, row) < placeBy(BY_ALL, row - 1)) {
                    back++;
                }
            }
            return back;
        }

        double shareOfHalves() {
            int all = looksBy(BY_ALL);
            return all <= 0 ? 0.0 : (double) looksBy(BY_HALVES) / (double) all;
        }

        private void leaveAllColumns() {
            for (int column = 0; column < table.columns; column++) {
                setIn(left, column, column);
            }
            setIn(leftCount, 0, table.columns);
        }

        private void lookAtAll() {
            for (int row = 0; row < table.rows; row++) {
                setPlace(row, leftmostLeast(row, 0, 0, table.columns - 1));
            }
        }

        // The depth is refused far above the 5 that 10 rows can need.
        private static void halve(Finder finder, int from, int to, int first, int last, int depth) {
            if (finder == null || from > to || depth > MOST_SIDE) {
                return;
            }
            int middle = (from + to) / 2;
            int place = finder.leftmostLeast(middle, 0, first, last);
            finder.setPlace(middle, place);
            halve(finder, from, middle - 1, first, place, depth + 1);
            halve(finder, middle + 1, to, place, last, depth + 1);
        }

        private int rowsAt(int level) {
            return table.rows >> level;
        }

        private int rowAt(int level, int rank) {
            return ((rank + 1) << level) - 1;
        }

        private int columnLeft(int list, int index) {
            return numberIn(left, list * MOST_SIDE + index);
        }

        private void pileColumns(int level) {
            int rows = rowsAt(level);
            int given = rows == 0 ? 0 : numberIn(leftCount, level);
            int height = 0;
            for (int i = 0; i < given; i++) {
                int column = columnLeft(level, i);
                height = heightAfterThrowing(level, height, column);
                if (height < rows) {
                    setIn(left, (level + 1) * MOST_SIDE + height, column);
                    height++;
                }
            }
            setIn(leftCount, level + 1, height);
        }

        private int heightAfterThrowing(int level, int piled, int column) {
            for (int height = piled; height > 0; height--) {
                int row = rowAt(level, height - 1);
                int top = look(row, columnLeft(level + 1, height - 1));
                int fresh = look(row, column);
                if (top <= fresh) {
                    return height;
                }
            }
            return 0;
        }

        private void fillBetween(int level) {
            int rows = rowsAt(level);
            for (int rank = 0; rank < rows; rank += 2) {
                int row = rowAt(level, rank);
                int first = rank == 0 ? 0 : placeBy(way, rowAt(level, rank - 1));
                int last = rank == rows - 1 ? table.columns - 1 : placeBy(way, rowAt(level, rank + 1));
                setPlace(row, leftmostLeast(row, level + 1, first, last));
            }
        }

        private int leftmostLeast(int row, int list, int first, int last) {
            int place = NONE;
            int least = 0;
            int count = numberIn(leftCount, list);
            for (int i = 0; i < count; i++) {
                int column = columnLeft(list, i);
                if (isFromTo(column, first, last)) {
                    int number = look(row, column);
                    if (place == NONE || number < least) {
                        place = column;
                        least = number;
                    }
                }
            }
            return place;
        }

        private int look(int row, int column) {
            looksNow++;
            return table.numberAt(row, column);
        }

        private void setPlace(int row, int place) {
            setIn(places, way * MOST_SIDE + row, place);
        }
    }

    /** Cuts the weights into parts at least cost. */
    private static final class Cutter {
        private static final int COUNTS = MOST_WEIGHTS + 1;
        // 10 weights of 99 in one part cost less than a million.
        private static final int FAR_TOO_DEAR = 1000000000;

        private final State state;
        // Both are told for a number of parts and a number of first weights.
        private final int[] least = new int[COUNTS * COUNTS];
        private final int[] lastCut = new int[COUNTS * COUNTS];
        private final int[] firstTogether = new int[COUNTS];
        private final int[] tried = new int[COUNTS];

        Cutter(State state) {
            this.state = state;
        }

        void planCuts() {
            int together = 0;
            for (int i = 0; i < state.weightCount; i++) {
                together += state.weightAt(i);
                setIn(firstTogether, i + 1, together);
            }
            for (int parts = 1; parts <= state.weightCount; parts++) {
                for (int first = parts; first <= state.weightCount; first++) {
                    planLastCut(parts, first);
                }
            }
        }

        int plannedCost(int parts) {
            return numberIn(least, parts * COUNTS + state.weightCount);
        }

        int plannedCut(int parts, int cut) {
            int ahead = state.weightCount;
            for (int left = parts; left > cut + 1; left--) {
                ahead = numberIn(lastCut, left * COUNTS + ahead);
            }
            return ahead;
        }

        int fewestPartsFor(int most) {
            for (int parts = 1; parts <= state.weightCount; parts++) {
                if (plannedCost(parts) <= most) {
                    return parts;
                }
            }
            return NONE;
        }

        void tryAllCuts() {
            for (int parts = 1; parts <= state.weightCount; parts++) {
                setIn(tried, parts, FAR_TOO_DEAR);
            }
            tryNextPart(this, 1, 0, 0);
        }

        int triedCost(int parts) {
            return numberIn(tried, parts);
        }

        // Only a cheaper cut takes the place of one further left: so the last cut is the leftmost.
        private void planLastCut(int parts, int first) {
            int best = FAR_TOO_DEAR;
            int bestCut = 0;
            int mostAhead = parts == 1 ? 0 : first - 1;
            for (int ahead = parts - 1; ahead <= mostAhead; ahead++) {
                int last = numberIn(firstTogether, first) - numberIn(firstTogether, ahead);
                int cost = numberIn(least, (parts - 1) * COUNTS + ahead) + last * last;
                if (cost < best) {
                    best = cost;
                    bestCut = ahead;
                }
            }
            setIn(least, parts * COUNTS + first, best);
            setIn(lastCut, parts * COUNTS + first, bestCut);
        }

        // Each part takes a weight at least, so no call goes deeper than there are weights.
        private static void tryNextPart(Cutter cutter, int parts, int ahead, int cost) {
            if (cutter == null || parts > MOST_WEIGHTS) {
                return;
            }
            int count = cutter.state.weightCount;
            int part = 0;
            for (int end = ahead + 1; end <= count; end++) {
                part += cutter.state.weightAt(end - 1);
                if (end < count) {
                    tryNextPart(cutter, parts + 1, end, cost + part * part);
                } else {
                    setIn(cutter.tried, parts, Math.min(cutter.triedCost(parts), cost + part * part));
                }
            }
        }
    }

    /** The buffer, and the table that it tells as far as it is read. */
    private static final class Text {
        int length = 0;
        private final int[] codes = new int[MOST_CODES];
        private final int[] numbers = new int[MOST_SIDE * MOST_SIDE];
        private int row = 0;
        private int column = 0;
        private int columnsOfFirst = 0;
        private int digits = 0;
        private int number = 0;

        void add(int code) {
            setIn(codes, length, code);
            length++;
        }

        void clear() {
            length = 0;
        }

        int codeAt(int index) {
            return numberIn(codes, index);
        }

        int readToError() {
            row = 0;
            column = 0;
            columnsOfFirst = MOST_SIDE;
            digits = 0;
            number = 0;
            for (int i = 0; i < length; i++) {
                if (!takes(codeAt(i))) {
                    return i;
                }
            }
            return length;
        }

        boolean tellsTable() {
            return readToError() == length && digits > 0 && isRowFull();
        }

        int rowsTold() {
            return row + 1;
        }

        int columnsTold() {
            return column + 1;
        }

        int numberTold(int ofRow, int ofColumn) {
            return numberIn(numbers, ofRow * MOST_SIDE + ofColumn);
        }

        private boolean takes(int code) {
            if (isFromTo(code, '0', '9')) {
                return takesDigit(code - '0');
            }
            if (code == ',') {
                return takesComma();
            }
            return code == '/' && takesSlash();
        }

        private boolean takesDigit(int digit) {
            boolean isFirst = digits == 0;
            if (!isFirst && (number == 0 || digits == 4)) {
                return false;
            }
            number = isFirst ? digit : number * 10 + digit;
            digits++;
            setIn(numbers, row * MOST_SIDE + column, number);
            return true;
        }

        private boolean takesComma() {
            if (digits == 0 || column + 1 >= columnsOfFirst) {
                return false;
            }
            column++;
            digits = 0;
            return true;
        }

        private boolean takesSlash() {
            if (digits == 0 || row + 1 >= MOST_SIDE || !isRowFull()) {
                return false;
            }
            columnsOfFirst = column + 1;
            row++;
            column = 0;
            digits = 0;
            return true;
        }

        private boolean isRowFull() {
            return row == 0 || column + 1 == columnsOfFirst;
        }
    }

    /** A slot for one snapshot. */
    private static final class Slot {
        boolean isFilled = false;
        final State snapshot = new State();

        void fillFrom(State state) {
            snapshot.copyFrom(state);
            isFilled = true;
        }
    }

    /** The saved states, in a ring that is used again: the newest one lies behind all others. */
    private static final class History {
        int count = 0;
        private int oldest = 0;
        private final State[] saved = new State[MOST_SAVED];

        History() {
            for (int i = 0; i < saved.length; i++) {
                saved[i] = new State();
            }
        }

        void save(State state) {
            if (count == MOST_SAVED) {
                oldest = (oldest + 1) % MOST_SAVED;
                count--;
            }
            State free = stateAt(count);
            if (free != null) {
                free.copyFrom(state);
                count++;
            }
        }

        State latest() {
            return stateAt(count - 1);
        }

        private State stateAt(int rank) {
            int index = (oldest + rank) % MOST_SAVED;
            return index < 0 || index >= saved.length ? null : saved[index];
        }
    }
}
