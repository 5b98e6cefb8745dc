/** Objects that tests begin with. */
final class Made {
    interface Maker {
        LeastRows make();
    }

    /** As it is made. */
    static final Maker FRESH = LeastRows::new;
    /** In use, with room left in all: the rule is kept, one slot and the first half of a text are taken. */
    static final Maker BUSY = Made::busy;
    /** In use, with witnesses against the rule, the other slot taken, and a whole text. */
    static final Maker BROKEN = Made::broken;
    /** Full: the table, the weights, the buffer, the slots and the saved states. */
    static final Maker FULL = Made::full;

    static final String BUSY_TEXT = "12,0/3";
    static final String BROKEN_TEXT = "4,5/6,7";
    /** Three rows of ten numbers, in just 60 characters. */
    static final String FULL_TEXT = "1,2,3,4,5,6,7,8,9,0/1,2,3,4,5,6,7,8,9,0/1,2,3,4,5,6,7,8,9,10";

    private Made() {
    }

    static Maker[] all() {
        return new Maker[] {FRESH, BUSY, BROKEN, FULL};
    }

    static String name(Maker maker) {
        return maker == FRESH ? "fresh" : maker == BUSY ? "busy" : maker == BROKEN ? "broken"
            : maker == FULL ? "full" : "own";
    }

    static LeastRows type(LeastRows x, String text) {
        for (int i = 0; i < text.length(); i++) {
            x.append(text.charAt(i));
        }
        return x;
    }

    static LeastRows typed(String text) {
        return type(new LeastRows(), text);
    }

    static LeastRows table(String text) {
        LeastRows x = typed(text);
        x.load();
        return x;
    }

    /** Behind the first weight, which is 1. */
    static LeastRows weights(int... weights) {
        LeastRows x = new LeastRows();
        for (int weight : weights) {
            x.weigh(weight);
        }
        return x;
    }

    static LeastRows sized(int rows, int columns) {
        LeastRows x = new LeastRows();
        x.size(rows, columns);
        return x;
    }

    /** No saved states but one, with what is seen now. */
    private static void forget(LeastRows x, int slot) {
        x.keep(slot);
        while (x.count(8) > 0) {
            x.undo();
        }
        x.goBack(slot);
    }

    private static LeastRows busy() {
        LeastRows x = sized(10, 10);
        x.points(3, 5, 2, 4);
        x.find(1);
        x.find(2);
        x.weigh(7);
        forget(x, 1);
        x.size(3, 4);
        x.weigh(20);
        return type(x, BUSY_TEXT);
    }

    private static LeastRows broken() {
        LeastRows x = sized(9, 8);
        x.points(50, 0, 0, 7);
        x.size(4, 5);
        x.put(1, 0, 0);
        x.mend();
        x.find(0);
        forget(x, 0);
        x.weigh(2);
        x.put(2, 1, 1);
        x.put(3, 0, 3);
        x.find(0);
        return type(x, BROKEN_TEXT);
    }

    private static LeastRows full() {
        LeastRows x = sized(10, 10);
        for (int weight = 91; weight <= 99; weight++) {
            x.weigh(weight);
        }
        x.keep(0);
        x.find(0);
        x.put(9, 9, 9999);
        x.keep(1);
        for (int step = 4; step <= 9; step++) {
            x.points(0, step, 0, step);
        }
        return type(x, FULL_TEXT);
    }
}
