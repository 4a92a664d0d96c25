/** Promises 1 to 8: a new object, and what shelves hold. */
public final class ShelvesTest {
    private static final Check CHECK = new Check("ShelvesTest");
    private static final int LOW = Integer.MIN_VALUE;
    private static final int HIGH = Integer.MAX_VALUE;

    public static void main(String[] args) {
        aNewObject();
        row();
        set();
        setKeepsLowestBits();
        copy();
        copyIsRefused();
        element();
        show();
        says();
        saysIsRefused();
        CHECK.end();
    }

    private static void due(String call, long got, long want) {
        CHECK.due(call, got, want);
    }

    private static void aNewObject() {
        ChosenBackAtNine x = new ChosenBackAtNine();
        for (int what = 0; what <= 17; what++) {
            int want = what == 6 ? 1 : what > 7 && what < 11 ? -1 : 0;
            due("new: status " + what, x.status(what), want);
        }
        for (int s = 0; s < 8; s++) {
            due("new: holds " + s, x.holds(s), -1);
        }
        due("new: fault", x.fault(), -1);
        due("new: trace", x.trace(0), -1);
        due("new: restore", x.restore(), -6);
        due("new: favourite", x.favourite(0), -1);
        due("NONE", ChosenBackAtNine.NONE, -1);
    }

    private static void row() {
        ChosenBackAtNine x = new ChosenBackAtNine();
        for (int sort = 0; sort <= 3; sort++) {
            due("row of sort " + sort, x.row(sort, sort, 160), 1);
            due("holds row of sort " + sort, x.holds(sort), 100 + sort);
        }
        due("row empty", x.row(7, 0, 0), 1);
        due("row empty holds", x.holds(7), 100);
        x.set(0, 159, 5);
        due("row anew", x.row(0, 0, 160), 1);
        due("row anew is 0", x.element(0, 159), 0);
        due("row no shelf -1", x.row(-1, 9, -1), -1);
        due("row no shelf 8", x.row(8, 0, 1), -1);
        due("row no shelf low", x.row(LOW, 0, 1), -1);
        due("row no shelf high", x.row(HIGH, 0, 1), -1);
        due("row below ahead of sort", x.row(0, 4, -1), -4);
        due("row below low", x.row(0, 0, LOW), -4);
        due("row sort ahead of room", x.row(0, 4, 161), -6);
        due("row sort -1", x.row(0, -1, 1), -6);
        due("row room", x.row(0, 3, 161), -7);
        due("row room high", x.row(0, 3, HIGH), -7);
        due("row refused changes nothing", x.holds(0), 100);
        due("row refusals -1", Check.refusals(x, -1), 4);
        due("row refusals -4", Check.refusals(x, -4), 2);
        due("row refusals -6", Check.refusals(x, -6), 2);
        due("row refusals -7", Check.refusals(x, -7), 2);
        due("row refusals", Check.allRefusals(x), 10);
    }

    private static void set() {
        ChosenBackAtNine x = Check.told("grown 0 1 2 3");
        x.row(0, 2, 3);
        x.show(1, 0);
        due("set first", x.set(0, 0, 11), 1);
        due("set last", x.set(0, 2, 13), 1);
        due("set: element 0", x.element(0, 0), 11);
        due("set: element 1", x.element(0, 1), 0);
        due("set: element 2", x.element(0, 2), 13);
        due("set no shelf", x.set(8, 0, 1), -1);
        due("set no shelf -1", x.set(-1, 0, 1), -1);
        due("set on a grown one", x.set(1, 9, 1), -2);
        due("set on nothing", x.set(2, 9, 1), -3);
        due("set beyond", x.set(0, 3, 1), -5);
        due("set beyond below", x.set(0, -1, 1), -5);
        due("set beyond low", x.set(0, LOW, 1), -5);
        due("set beyond high", x.set(0, HIGH, 1), -5);
        due("set refusals", Check.allRefusals(x), 8);
        x.row(3, 0, 0);
        due("set on empty", x.set(3, 0, 1), -5);
        x.row(0, 2, 1);
        due("set beyond a shorter row", x.set(0, 2, 1), -5);
        due("element beyond a shorter row", x.element(0, 2), 0);
    }

    private static void setKeepsLowestBits() {
        long[] given = {0, 127, 128, 200, 255, 256, -129, 32768, 65535, 1L << 31, 1L << 32, (1L << 63) - 1, -1};
        ChosenBackAtNine x = new ChosenBackAtNine();
        for (int sort = 0; sort < 4; sort++) {
            x.row(sort, sort, 1);
            for (long v : given) {
                due("set " + v, x.set(sort, 0, v), 1);
                long want = sort == 0 ? (byte) v : sort == 1 ? (short) v : sort == 2 ? (int) v : v;
                due("set " + v + " as sort " + sort, x.element(sort, 0), want);
            }
        }
    }

    private static void copy() {
        ChosenBackAtNine x = new ChosenBackAtNine();
        x.row(0, 3, 5);
        x.row(1, 3, 4);
        for (int i = 0; i < 5; i++) {
            x.set(0, i, 10 + i);
        }
        due("copy", x.copy(0, 1, 2, 1, 3), 1);
        dueRow(x, 1, 0, 12, 13, 14);
        dueRow(x, 0, 10, 11, 12, 13, 14);
        due("copy onto itself, forward", x.copy(0, 0, 0, 1, 4), 1);
        dueRow(x, 0, 10, 10, 11, 12, 13);
        due("copy onto itself, backward", x.copy(0, 0, 1, 0, 4), 1);
        dueRow(x, 0, 10, 11, 12, 13, 13);
        due("copy of none at the ends", x.copy(0, 1, 5, 4, 0), 1);
        due("copy of all", x.copy(1, 0, 0, 0, 4), 1);
        dueRow(x, 0, 0, 12, 13, 14, 13);
    }

    private static void dueRow(ChosenBackAtNine x, int s, long... want) {
        for (int i = 0; i < want.length; i++) {
            due("element " + i + " of " + s, x.element(s, i), want[i]);
        }
    }

    private static void copyIsRefused() {
        ChosenBackAtNine x = Check.told("grown 0 1 2 3");
        x.row(0, 0, 4);
        x.row(1, 1, 4);
        x.row(2, 0, 2);
        x.show(3, 0);
        due("copy no shelf p", x.copy(-1, 3, 0, 0, -1), -1);
        due("copy no shelf q", x.copy(3, 8, 0, 0, -1), -1);
        due("copy from a grown one", x.copy(3, 4, 0, 0, -1), -2);
        due("copy to a grown one, from nothing", x.copy(4, 3, 0, 0, -1), -2);
        due("copy of two sorts", x.copy(0, 1, 0, 0, -1), -2);
        due("copy from nothing", x.copy(4, 0, 0, 0, -1), -3);
        due("copy to nothing", x.copy(1, 4, 0, 0, -1), -3);
        due("copy below", x.copy(0, 2, -1, 0, -1), -4);
        due("copy i below", x.copy(0, 2, -1, 0, 1), -5);
        due("copy j below", x.copy(0, 2, 0, -1, 1), -5);
        due("copy i beyond", x.copy(0, 2, 3, 0, 2), -5);
        due("copy j beyond", x.copy(0, 2, 0, 1, 2), -5);
        due("copy of none beyond", x.copy(0, 2, 5, 0, 0), -5);
        due("copy of none beyond q", x.copy(0, 2, 0, 3, 0), -5);
        due("copy wide", x.copy(0, 2, 1, 1, HIGH), -5);
        due("copy far", x.copy(0, 2, HIGH, HIGH, HIGH), -5);
        due("copy low", x.copy(0, 2, LOW, LOW, 1), -5);
        due("copy refusals", Check.allRefusals(x), 17);
    }

    private static void element() {
        ChosenBackAtNine x = Check.told("grown 0 1 2 3");
        x.row(0, 3, 2);
        x.set(0, 1, Long.MIN_VALUE);
        x.show(1, 0);
        due("element", x.element(0, 1), Long.MIN_VALUE);
        due("element no shelf", x.element(8, 0), 0);
        due("element no shelf -1", x.element(-1, 0), 0);
        due("element of a grown one", x.element(1, 0), 0);
        due("element of nothing", x.element(2, 0), 0);
        due("element beyond", x.element(0, 2), 0);
        due("element below", x.element(0, -1), 0);
        x.show(0, -1);
        due("element of what is gone", x.element(0, 1), 0);
        due("element refuses nothing", Check.allRefusals(x), 0);
    }

    private static void show() {
        ChosenBackAtNine x = Check.told("grown 0 1 2 3;grown 4 0 0 0");
        due("show", x.show(0, 1), 1);
        due("show holds", x.holds(0), 1);
        due("show first", x.show(1, 0), 1);
        due("show first holds", x.holds(1), 0);
        due("show over a row", x.row(1, 3, 3) + x.show(1, 1), 2);
        due("show over a row holds", x.holds(1), 1);
        due("row over a grown one", x.row(1, 3, 3), 1);
        due("row over a grown one holds", x.holds(1), 103);
        due("show none", x.show(0, -1), 0);
        due("show none holds", x.holds(0), -1);
        due("show none over nothing", x.show(5, -1), 0);
        due("show no shelf", x.show(8, 0), -1);
        due("show no shelf for none", x.show(-1, -1), -1);
        due("show nobody", x.show(1, 2), -1);
        due("show nobody -2", x.show(1, -2), -1);
        due("show refused changes nothing", x.holds(1), 103);
        due("show refusals", Check.refusals(x, -1), 4);
        due("holds no shelf", x.holds(8), -1);
        due("holds no shelf -1", x.holds(-1), -1);
        due("holds no shelf low", x.holds(LOW), -1);
        due("holds refuses nothing", Check.allRefusals(x), 4);
    }

    /** Shelf s holds one of kind s who was dropped s times; the last shelf holds nothing. */
    private static ChosenBackAtNine oneOfEachKind() {
        ChosenBackAtNine x = Check.told(
                "grown 0 1 60 0;grown 1 2 51 0;grown 2 3 52 0;grown 3 4 53 0;grown 4 5 54 0;grown 5 6 55 0;grown 6 7 56 0");
        for (int kind = 0; kind <= 6; kind++) {
            x.show(kind, kind);
        }
        return x;
    }

    private static void says() {
        ChosenBackAtNine x = oneOfEachKind();
        for (int kind = 0; kind <= 6; kind++) {
            due("says means " + kind, x.says(kind, 0), kind == 0 ? 60 : 50 + kind);
        }
        due("says a of a thief", x.says(2, 2), 3);
        due("says a of a lender as thief", x.says(5, 2), 6);
        due("says a of a lender", x.says(5, 5), 6);
        due("says charge of none", x.says(4, 4), 0);
        x.child(0, 0, 4, 1, 2);
        x.child(0, 0, 4, 3, 6);
        due("says charge", x.says(4, 4), 2);
        // Both give up the last of no pull; then the second who kept nobody of worth gives up another.
        ChosenBackAtNine y = Check.told("grown 0 0 0 9;grown 0 0 0 8;grown 6 0 5 0;grown 0 0 0 1",
                "child 1 0 0 1 2;child 1 0 0 1 2");
        y.show(0, 2);
        due("says dropped at first", y.says(0, 1), 0);
        y.choose(0);
        y.choose(1);
        due("says dropped as uncle", y.says(0, 1), 2);
        due("says dropped as miller", y.says(0, 3), 2);
        due("says dropped as paying", y.says(0, 6), 2);
        due("says means as grown", y.says(0, 0), 5);
    }

    private static void saysIsRefused() {
        ChosenBackAtNine x = oneOfEachKind();
        x.row(7, 0, 1);
        due("says no shelf", x.says(8, 0), -1);
        due("says no shelf -1", x.says(-1, 0), -1);
        due("says no kind", x.says(0, 7), -1);
        due("says no kind -1", x.says(7, -1), -1);
        due("says of a row", x.says(7, 0), -2);
        x.show(7, -1);
        due("says of nothing", x.says(7, 0), -3);
        due("says refusals", Check.allRefusals(x), 6);
        boolean[][] under = new boolean[7][7];
        int[] above = {-1, 0, 0, 1, 0, 2, 3};
        for (int kind = 0; kind < 7; kind++) {
            for (int at = kind; at >= 0; at = above[at]) {
                under[kind][at] = true;
            }
        }
        for (int kind = 0; kind < 7; kind++) {
            for (int wanted = 0; wanted < 7; wanted++) {
                boolean refused = x.says(kind, wanted) == -2;
                due("says " + kind + " as " + wanted, refused ? 1 : 0, under[kind][wanted] ? 0 : 1);
            }
        }
    }
}
