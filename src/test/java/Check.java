/** Counts answers, tells the wrong ones, and ends a test with exit code 1 if there was one. */
final class Check {
    private final String name;
    private int asked = 0;
    private int wrong = 0;

    Check(String name) {
        this.name = name;
    }

    void due(String call, long got, long want) {
        asked++;
        if (got != want) {
            wrong++;
            System.out.println(name + ": " + call + " answered " + got + ", due is " + want);
        }
    }

    void end() {
        System.out.println(name + ": " + asked + " answers, " + wrong + " wrong");
        if (wrong != 0 || asked == 0) {
            System.exit(1);
        }
    }

    boolean hasWrong() {
        return wrong != 0;
    }

    static void putText(ChosenBackAtNine x, int shelf, int sort, String text) {
        x.row(shelf, sort, text.length());
        for (int i = 0; i < text.length(); i++) {
            x.set(shelf, i, text.charAt(i));
        }
    }

    /** A new object whose parish is as the text tells. */
    static ChosenBackAtNine told(String... texts) {
        ChosenBackAtNine x = new ChosenBackAtNine();
        for (String text : texts) {
            putText(x, 7, 0, text);
            if (x.parish(7) < 0) {
                throw new IllegalStateException(text + ": a fault at " + x.fault());
            }
        }
        x.show(7, -1);
        return x;
    }

    /** How many refusals of a number (-1 to -7) there were. */
    static int refusals(ChosenBackAtNine x, int number) {
        return x.status(10 - number);
    }

    static int allRefusals(ChosenBackAtNine x) {
        int all = 0;
        for (int number = -1; number >= -7; number--) {
            all += refusals(x, number);
        }
        return all;
    }
}
