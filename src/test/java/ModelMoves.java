import java.util.List;

/** The moves as Java itself would have them: a class a kind, and super. */
final class ModelMoves {
    private ModelMoves() {
    }

    static Plain of(int kind) {
        switch (kind) {
            case 0: return new Plain();
            case 1: return new Uncle();
            case 2: return new Thief();
            case 3: return new Miller();
            case 4: return new Dead();
            case 5: return new Lender();
            default: return new Paying();
        }
    }

    static class Plain {
        int m;
        int k;
        List<Integer> trace;

        int plays(int x) {
            trace.add(10);
            return x + m;
        }

        int gives(int x) {
            trace.add(11);
            return plays(x) * 2;
        }

        int bows(int x) {
            trace.add(12);
            return gives(x) ^ plays(x - k);
        }
    }

    static class Uncle extends Plain {
        @Override
        int plays(int x) {
            trace.add(20);
            return super.plays(x) + k;
        }
    }

    static class Thief extends Plain {
        @Override
        int gives(int x) {
            trace.add(30);
            return super.gives(x) * 3;
        }
    }

    static class Miller extends Uncle {
        @Override
        int gives(int x) {
            trace.add(40);
            return super.gives(x + 1);
        }
    }

    static class Dead extends Plain {
        @Override
        int bows(int x) {
            trace.add(50);
            return -super.bows(x);
        }

        @Override
        int plays(int x) {
            trace.add(51);
            return super.plays(x) - m;
        }
    }

    static class Lender extends Thief {
        @Override
        int bows(int x) {
            trace.add(60);
            return super.bows(x) ^ 5;
        }
    }

    static class Paying extends Miller {
        @Override
        int plays(int x) {
            trace.add(70);
            return super.plays(x) * 2;
        }

        @Override
        int gives(int x) {
            trace.add(71);
            return super.gives(x - k);
        }
    }
}
