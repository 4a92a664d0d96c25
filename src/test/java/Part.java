import java.util.function.Supplier;
import java.util.function.ToIntFunction;

/** What the tests of all parts of the document use. */
abstract class Part {
    static final String TERMS = Sentences.TERMS;
    static final int LOW = Integer.MIN_VALUE;
    static final int HIGH = Integer.MAX_VALUE;

    // Numbers that nobody bears in the small family.
    static final int[] NO_SHELF = {-1, 8, LOW, HIGH};
    static final int[] NO_GROWN = {-1, 7, 8, LOW, HIGH};
    static final int[] NO_CHILD = {-1, 2, 6, LOW, HIGH};
    static final int[] NO_KIND = {-1, 7, LOW, HIGH};

    private final Sentences sentences;

    Part(Sentences sentences) {
        this.sentences = sentences;
    }

    abstract void ask();

    void asks(String part, String words) {
        sentences.asks(part, words);
    }

    void due(String call, long got, long want) {
        sentences.due(call, got, want);
    }

    /** Grown ones of plain kind, whose pull on a child of taste 1 is their tricks. */
    static ChosenBackAtNine plain(int... tricks) {
        ChosenBackAtNine x = new ChosenBackAtNine();
        for (int t : tricks) {
            x.grown(0, 0, 0, t);
        }
        return x;
    }

    /**
     * Two children, seven grown ones (2 and 6 dead), an image that differs, and on the shelves: 0 and 5 bytes,
     * 1 shorts, 2 the grown one 1, 3 nothing, 4 longs, 6 ints, 7 the grown one 4.
     */
    static ChosenBackAtNine small() {
        ChosenBackAtNine x = new ChosenBackAtNine();
        x.grown(0, 1, 20, 4);
        x.grown(1, 3, 10, 6);
        x.grown(4, 0, 60, 9);
        x.grown(3, 2, 30, 2);
        x.grown(5, 2, 9, 3);
        x.child(3, 2, 0, 1, 2);
        x.child(1, 5, 1, 2, 3);
        x.image();
        x.grown(0, 0, 6, 1);
        x.grown(4, 5, 5, 5);
        x.gift(0, 3, 4);
        x.age(1, 7);
        x.flood(2);
        x.seed(99);
        int[] sorts = {0, 1, -1, -1, 3, 0, 2};
        for (int s = 0; s < sorts.length; s++) {
            if (sorts[s] >= 0) {
                x.row(s, sorts[s], 4);
                x.set(s, 0, 20 + s);
                x.set(s, 1, 10 + s);
            }
        }
        x.show(2, 1);
        x.show(7, 4);
        x.act(1, 1, 5);
        return x;
    }

    /** Eight grown ones and six children: as many as there may be. */
    static ChosenBackAtNine full() {
        ChosenBackAtNine x = plain(0, 1, 2, 3, 4, 5, 6, 7);
        for (int child = 0; child < 6; child++) {
            x.child(child, 1, child, child + 1, child + 2);
        }
        x.image();
        return x;
    }

    /** One child and its three: there is nobody to take. */
    static ChosenBackAtNine three() {
        ChosenBackAtNine x = plain(1, 2, 3);
        x.child(1, 2, 0, 1, 2);
        return x;
    }

    /** A call of the small family answers a refusal, is counted as it, and changes nothing. */
    void refused(int number, String call, ToIntFunction<ChosenBackAtNine> asked) {
        refused(Part::small, number, call, asked);
    }

    void refused(Supplier<ChosenBackAtNine> make, int number, String call, ToIntFunction<ChosenBackAtNine> asked) {
        ChosenBackAtNine x = make.get();
        ChosenBackAtNine twin = make.get();
        due(call, asked.applyAsInt(x), number);
        int counted = number < -10 ? number + 10 : number;
        for (int n = -1; n >= -7; n--) {
            due(call + " counted as " + n, Check.refusals(x, n) - Check.refusals(twin, n), n == counted ? 1 : 0);
        }
        alike(call, x, twin);
    }

    /** A call of the small family answers something and neither changes nor counts anything. */
    void onlyTold(long answer, String call, ToIntFunction<ChosenBackAtNine> asked) {
        onlyTold(Part::small, answer, call, asked);
    }

    void onlyTold(Supplier<ChosenBackAtNine> make, long answer, String call, ToIntFunction<ChosenBackAtNine> asked) {
        ChosenBackAtNine x = make.get();
        ChosenBackAtNine twin = make.get();
        due(call, asked.applyAsInt(x), answer);
        due(call + " is no refusal", Check.allRefusals(x), Check.allRefusals(twin));
        alike(call, x, twin);
    }

    private void alike(String call, ChosenBackAtNine x, ChosenBackAtNine twin) {
        due(call + " changes nothing", all(x).equals(all(twin)) ? 1 : 0, 1);
        due(call + " and the image", x.restore(), twin.restore());
        due(call + " changes nothing of the image", all(x).equals(all(twin)) ? 1 : 0, 1);
    }

    /** All that an object tells of itself, but the refusals. */
    static String all(ChosenBackAtNine x) {
        StringBuilder s = new StringBuilder().append(x.fault());
        for (int what = 0; what < 8; what++) {
            s.append(' ').append(x.status(what)).append(' ').append(x.trace(what));
        }
        for (int shelf = 0; shelf < 8; shelf++) {
            s.append(" | ").append(x.holds(shelf));
            for (int i = 0; x.holds(shelf) >= 100 && i < 5; i++) {
                s.append(' ').append(x.element(shelf, i));
            }
        }
        return s.append(parish(x)).toString();
    }

    /** All that a parish is: what an image keeps. */
    static String parish(ChosenBackAtNine x) {
        StringBuilder s = new StringBuilder();
        for (int what : new int[] {2, 3, 6}) {
            s.append(' ').append(x.status(what));
        }
        int grown = x.status(0);
        for (int g = 0; g < grown; g++) {
            for (int what = 0; what < 5; what++) {
                s.append(what == 0 ? " | " : " ").append(x.grownOf(g, what));
            }
        }
        for (int child = 0; child < x.status(1); child++) {
            for (int what = 0; what < 4; what++) {
                s.append(what == 0 ? " | " : " ").append(x.childOf(child, what));
            }
            for (int g = 0; g < grown; g++) {
                s.append(' ').append(x.pull(child, g, 0));
            }
        }
        return s.toString();
    }

    // ---- texts

    /** A text that stands, told to x. */
    void items(ChosenBackAtNine x, String text, int items) {
        Check.putText(x, 7, 0, text);
        due("parish of '" + text + "'", x.parish(7), items);
        due("fault of '" + text + "'", x.fault(), -1);
    }

    /** A text that can't stand: it changes nothing. */
    void fault(Supplier<ChosenBackAtNine> make, String text, int place) {
        ChosenBackAtNine x = make.get();
        Check.putText(x, 7, 0, text);
        String before = parish(x);
        int refusals = Check.refusals(x, -6);
        due("parish of '" + text + "'", x.parish(7), -6);
        due("fault of '" + text + "'", x.fault(), place);
        due("refusals by '" + text + "'", Check.refusals(x, -6), refusals + 1);
        due("nothing changed by '" + text + "'", parish(x).equals(before) ? 1 : 0, 1);
    }

    /** A text that can't stand, told where nobody is yet. */
    void fault(String text, int place) {
        fault(ChosenBackAtNine::new, text, place);
    }

    // ---- choosing

    void choice(ChosenBackAtNine x, int child, int given, int kept, int taken) {
        due("chooses(" + child + ", 0)", x.chooses(child, 0), given);
        due("chooses(" + child + ", 1)", x.chooses(child, 1), kept);
        due("chooses(" + child + ", 2)", x.chooses(child, 2), taken);
    }
}
