import java.util.Arrays;

/** PICKS by trying every parting of children among grown ones. */
final class ModelPicks {
    private final Model.Told told;
    private final int children;
    private final int[] parting;
    private final int[] best;

    ModelPicks(Model.Told told) {
        this.told = told;
        children = told.children.size();
        parting = new int[children];
        best = new int[children];
        Arrays.fill(best, Model.NONE);
        tryFrom(0);
        // All partings that none would break have one that is best for every child: that it is one is a check.
        System.arraycopy(best, 0, parting, 0, children);
        if (!stands()) {
            throw new IllegalStateException("the best of all partings is none itself");
        }
    }

    int[] best() {
        return best;
    }

    private void tryFrom(int child) {
        if (child == children) {
            if (stands()) {
                for (int c = 0; c < children; c++) {
                    best[c] = childPrefers(c, parting[c], best[c]) ? parting[c] : best[c];
                }
            }
            return;
        }
        for (int g = Model.NONE; g < told.grown.size(); g++) {
            if (!told.children.get(child).three.contains(g)) {
                parting[child] = g;
                if (g == Model.NONE || held(g, child + 1) <= told.grown.get(g).means / 5) {
                    tryFrom(child + 1);
                }
            }
        }
    }

    private int held(int grown, int below) {
        int held = 0;
        for (int c = 0; c < below; c++) {
            held += parting[c] == grown ? 1 : 0;
        }
        return held;
    }

    private boolean stands() {
        for (int c = 0; c < children; c++) {
            for (int g = 0; g < told.grown.size(); g++) {
                if (!told.children.get(c).three.contains(g) && childPrefers(c, g, parting[c]) && wouldHave(g, c)) {
                    return false;
                }
            }
        }
        return true;
    }

    private boolean childPrefers(int child, int one, int other) {
        if (one == other || one == Model.NONE) {
            return false;
        }
        if (other == Model.NONE) {
            return true;
        }
        int difference = told.pull(child, one) - told.pull(child, other);
        return difference > 0 || difference == 0 && one < other;
    }

    private boolean wouldHave(int grown, int child) {
        int shoes = told.grown.get(grown).means / 5;
        if (held(grown, children) < shoes) {
            return true;
        }
        for (int c = 0; c < children; c++) {
            int difference = told.children.get(child).liking[grown] - told.children.get(c).liking[grown];
            if (parting[c] == grown && (difference > 0 || difference == 0 && child < c)) {
                return true;
            }
        }
        return false;
    }
}
