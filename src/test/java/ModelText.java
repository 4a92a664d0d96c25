import java.util.ArrayList;
import java.util.List;
import java.util.regex.Matcher;
import java.util.regex.Pattern;

/** A parish's text, taken apart by patterns: the first piece that can't stand tells the fault. */
final class ModelText {
    private static final String[] WORDS = {"grown", "child", "gift", "age", "flood"};
    private static final Pattern NUMBER = Pattern.compile("[0-9]{1,2}");

    final Model.Told told;
    int fault = Model.NONE;
    private final String text;
    private int at = 0;

    ModelText(String text, Model.Told told) {
        this.text = text;
        this.told = told;
    }

    /** A fault, thrown from wherever it is found. */
    private static final class Fault extends RuntimeException {
        private static final long serialVersionUID = 1;
        final int place;

        Fault(int place) {
            this.place = place;
        }
    }

    int read() {
        int items = 0;
        try {
            do {
                item();
                items++;
            } while (at < text.length() && sign(";"));
        } catch (Fault f) {
            fault = f.place;
        }
        return items;
    }

    private boolean sign(String sign) {
        if (!text.startsWith(sign, at)) {
            throw new Fault(at);
        }
        at++;
        return true;
    }

    private void item() {
        int start = at;
        String word = word();
        if (word.equals("grown") && told.grown.size() == 8 || word.equals("child") && told.children.size() == 6) {
            throw new Fault(start);
        }
        switch (word) {
            case "grown":
                Model.Grown g = new Model.Grown();
                g.kind = number(7);
                g.a = number(10);
                g.means = number(61);
                g.tricks = number(10);
                told.grown.add(g);
                break;
            case "child":
                Model.Child c = new Model.Child();
                c.taste = number(10);
                c.greed = number(10);
                for (int i = 0; i < 3; i++) {
                    int first = at + 1;
                    if (!c.three.add(number(told.grown.size()))) {
                        throw new Fault(first);
                    }
                }
                told.children.add(c);
                break;
            case "gift":
                int child = number(told.children.size());
                int first = at + 1;
                int who = number(told.grown.size());
                if (told.grown.get(who).kind == 4) {
                    throw new Fault(first);
                }
                told.give(child, who, number(21));
                break;
            case "age":
                int aged = number(told.children.size());
                told.children.get(aged).age = number(31);
                break;
            default:
                told.flood = number(10);
                break;
        }
    }

    private String word() {
        List<String> still = new ArrayList<>(List.of(WORDS));
        for (int n = 1; n <= 5; n++) {
            if (at + n > text.length()) {
                throw new Fault(text.length());
            }
            String begun = text.substring(at, at + n);
            still.removeIf(w -> !w.startsWith(begun));
            if (still.isEmpty()) {
                throw new Fault(at + n - 1);
            }
            if (still.contains(begun)) {
                at += n;
                return begun;
            }
        }
        throw new IllegalStateException(text);
    }

    private int number(int below) {
        sign(" ");
        Matcher digits = NUMBER.matcher(text).region(at, text.length());
        if (!digits.lookingAt() || Integer.parseInt(digits.group()) >= below) {
            throw new Fault(at);
        }
        at = digits.end();
        return Integer.parseInt(digits.group());
    }
}
