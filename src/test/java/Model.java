import java.util.ArrayList;
import java.util.List;

/**
 * The document a second time, by other means than the class may use: Java's own exceptions, try and
 * finally, typed arrays, the remainder of doubles and the Math functions. ModelTest compares the two.
 */
final class Model {
    static class Fault extends RuntimeException {
        private static final long serialVersionUID = 1L;
        final int kind;
        final int place;
        final int number;
        final Fault earlier;

        Fault(int kind, int place, int number, Fault earlier) {
            super(null, null, false, false);
            this.kind = kind;
            this.place = place;
            this.number = number;
            this.earlier = earlier;
        }

        int weight() {
            return 1 + (earlier == null ? 0 : earlier.weight());
        }

        int earlierOnes() {
            int n = 0;
            for (Fault f = earlier; f != null; f = f.earlier) {
                n++;
            }
            return n;
        }

        int lastPlace() {
            Fault last = this;
            while (last.earlier != null) {
                last = last.earlier;
            }
            return last.place;
        }
    }

    static class RowFault extends Fault {
        private static final long serialVersionUID = 1L;
        RowFault(int kind, int place) { super(kind, place, 0, null); }
    }

    static final class Missing extends RowFault {
        private static final long serialVersionUID = 1L;
        Missing(int place) { super(3, place); }
        @Override int weight() { return super.weight() + 10; }
    }

    static final class NoPlace extends RowFault {
        private static final long serialVersionUID = 1L;
        NoPlace(int place) { super(4, place); }
    }

    static final class Size extends RowFault {
        private static final long serialVersionUID = 1L;
        Size(int place) { super(5, place); }
        @Override int weight() { return super.weight() * 3; }
    }

    static class NumberFault extends Fault {
        private static final long serialVersionUID = 1L;
        NumberFault(int kind, int place) { super(kind, place, 0, null); }
    }

    static final class Zero extends NumberFault {
        private static final long serialVersionUID = 1L;
        Zero(int place) { super(7, place); }
        @Override int weight() { return super.weight() + 100; }
    }

    static final class Range extends NumberFault {
        private static final long serialVersionUID = 1L;
        Range(int place) { super(8, place); }
        @Override int weight() { return super.weight() + 105; }
    }

    static class Own extends Fault {
        private static final long serialVersionUID = 1L;
        Own(int place, int number) { super(9, place, number, null); }
        Own(int kind, int place, int number, Fault earlier) { super(kind, place, number, earlier); }
        @Override int weight() { return super.weight() + number; }
    }

    static final class Tired extends Fault {
        private static final long serialVersionUID = 1L;
        Tired(int place) { super(10, place, 0, null); }
    }

    static final class Wrapped extends Own {
        private static final long serialVersionUID = 1L;
        Wrapped(int place, int number, Fault earlier) { super(11, place, number, earlier); }
        @Override int weight() { return 2 * super.weight(); }
    }

    static final class Left extends RuntimeException {
        private static final long serialVersionUID = 1L;
        Left() { super(null, null, false, false); }
    }

    static final class Returned extends RuntimeException {
        private static final long serialVersionUID = 1L;
        Returned() { super(null, null, false, false); }
    }

    private static final Class<?>[] KINDS = {
        null, Fault.class, RowFault.class, Missing.class, NoPlace.class, Size.class,
        NumberFault.class, Zero.class, Range.class, Own.class, Tired.class, Wrapped.class};

    static final class Probe {
        double number;
    }

    /** A step, and, of one that opens a block, the parts of that. */
    static final class Node {
        final int what;
        final int a;
        final int b;
        final int c;
        final int place;
        final List<Part> parts = new ArrayList<>();

        Node(int what, int a, int b, int c, int place) {
            this.what = what;
            this.a = a;
            this.b = b;
            this.c = c;
            this.place = place;
        }
    }

    static final class Part {
        final int what;
        final int a;
        final List<Node> nodes = new ArrayList<>();

        Part(int what, int a) {
            this.what = what;
            this.a = a;
        }
    }

    private static final class Routine {
        final List<int[]> steps = new ArrayList<>();
        Part body;
        List<Node> open;

        /** Reads all steps anew: what they make, and which blocks stay open. */
        void read(int number) {
            body = new Part(-1, 0);
            open = new ArrayList<>();
            for (int i = 0; i < steps.size(); i++) {
                int[] s = steps.get(i);
                Node innermost = open.isEmpty() ? null : open.get(open.size() - 1);
                if (s[0] == 0) {
                    open.remove(open.size() - 1);
                } else if (s[0] == 2 || s[0] == 3) {
                    innermost.parts.add(new Part(s[0], s[1]));
                } else {
                    Node node = new Node(s[0], s[1], s[2], s[3], 40 * number + i);
                    Part part = innermost == null ? body : last(innermost);
                    part.nodes.add(node);
                    if (opens(s[0])) {
                        node.parts.add(new Part(s[0], 0));
                        open.add(node);
                    }
                }
            }
        }
    }

    private static Part last(Node node) {
        return node.parts.get(node.parts.size() - 1);
    }

    private static boolean opens(int what) {
        return what == 1 || what == 4 || what == 11;
    }

    private final Routine[] routines = new Routine[4];
    private int atHand;
    private final double[] dials = new double[8];
    private final Object[] rows = new Object[18];
    private List<Double> log = new ArrayList<>();
    private int counted;
    private int caught;
    private int finals;
    private Fault thrown;

    Model() {
        for (int r = 0; r < 4; r++) {
            routines[r] = new Routine();
            routines[r].read(r);
        }
    }

    int choose(int routine) {
        if (routine < 0 || routine > 3) {
            return -1;
        }
        atHand = routine;
        return routines[routine].steps.size();
    }

    private static boolean in(int n, int least, int most) {
        return least <= n && n <= most;
    }

    private static boolean told(int what, int a, int b, int c) {
        switch (what) {
            case 0: case 1: case 3: case 5: case 6: case 8: case 10: return true;
            case 2: return in(a, 1, 11);
            case 4: return in(a, 0, 6);
            case 7: case 9: return in(a, 0, 99);
            case 11: return in(a, 0, 7) && in(b, 0, 3) && in(c, 0, 7);
            case 12: return in(a, 0, 3);
            case 13: case 15: return in(a, 0, 17) && in(b, 0, 7);
            case 14: return in(a, 0, 17);
            case 16: case 17: return in(a, 0, 17) && in(b, 0, 7) && in(c, 0, 7);
            case 18: return in(a, 16, 17) && in(b, 0, 7);
            case 19: case 24: return in(a, 0, 7);
            case 20: case 21: return in(a, 0, 13) && in(b, 0, 7) && in(c, 0, 7);
            case 22: case 23: return in(a, 0, 7) && in(b, 0, 7) && in(c, 0, 7);
            default: return false;
        }
    }

    private boolean fits(int what) {
        List<Node> open = routines[atHand].open;
        Node innermost = open.isEmpty() ? null : open.get(open.size() - 1);
        if (what == 0) {
            return innermost != null;
        }
        if (what == 2 || what == 3) {
            boolean isTry = innermost != null && innermost.what == 1 && last(innermost).what != 3;
            return isTry && (what == 3 || innermost.parts.size() < 4);
        }
        if (what == 5) {
            int loop = -1;
            int last = -1;
            for (int i = 0; i < open.size(); i++) {
                loop = open.get(i).what == 4 ? i : loop;
                last = last(open.get(i)).what == 3 ? i : last;
            }
            return loop >= 0 && last < loop;
        }
        if (what == 6) {
            return open.stream().noneMatch(n -> last(n).what == 3);
        }
        if (what == 8 || what == 9 || what == 10) {
            return open.stream().anyMatch(n -> last(n).what == 2);
        }
        return !opens(what) || open.size() < 6;
    }

    int step(int what, int a, int b, int c) {
        Routine routine = routines[atHand];
        if (!told(what, a, b, c)) {
            return -1;
        }
        if (!fits(what)) {
            return -2;
        }
        if (routine.steps.size() == 40) {
            return -3;
        }
        routine.steps.add(new int[] {what, a, b, c});
        routine.read(atHand);
        return routine.steps.size();
    }

    int clear() {
        int n = routines[atHand].steps.size();
        routines[atHand].steps.clear();
        routines[atHand].read(atHand);
        return n;
    }

    int run() {
        if (!routines[atHand].open.isEmpty()) {
            return -1;
        }
        log = new ArrayList<>();
        counted = 0;
        caught = 0;
        finals = 0;
        thrown = null;
        try {
            routine(atHand, 0);
        } catch (Fault f) {
            thrown = f;
        }
        return thrown == null ? 0 : thrown.kind;
    }

    private void routine(int number, int calls) {
        try {
            all(routines[number].body, null, calls);
        } catch (Returned r) {
            // the routine is over
        }
    }

    private void all(Part part, Fault caught, int calls) {
        for (Node node : part.nodes) {
            one(node, caught, calls);
        }
    }

    private void tick(int place) {
        if (counted == 200) {
            throw new Tired(place);
        }
        counted++;
    }

    private void one(Node n, Fault caught, int calls) {
        tick(n.place);
        switch (n.what) {
            case 1: tryAll(n, caught, calls); break;
            case 4: loop(n, caught, calls); break;
            case 5: throw new Left();
            case 6: throw new Returned();
            case 7: throw new Own(n.place, n.a);
            case 8: throw caught;
            case 9:
                if (caught.earlierOnes() == 5) {
                    throw new Tired(n.place);
                }
                throw new Wrapped(n.place, n.a, caught);
            case 10:
                log.add((double) caught.kind);
                log.add((double) caught.place);
                log.add((double) caught.weight());
                log.add((double) caught.earlierOnes());
                break;
            case 11:
                if (isSo(dials[n.a], n.b, dials[n.c])) {
                    all(n.parts.get(0), caught, calls);
                }
                break;
            case 12:
                if (!routines[n.a].open.isEmpty() || calls == 4) {
                    throw new Tired(n.place);
                }
                routine(n.a, calls + 1);
                break;
            default: work(n);
        }
    }

    private static boolean isSo(double x, int how, double y) {
        return how == 0 ? x < y : how == 1 ? x == y : how == 2 ? x != y : !(x < y);
    }

    private void loop(Node n, Fault caught, int calls) {
        try {
            for (int i = 0; i < n.a; i++) {
                tick(n.place);
                all(n.parts.get(0), caught, calls);
            }
        } catch (Left l) {
            // goes on behind END
        }
    }

    private void tryAll(Node n, Fault around, int calls) {
        try {
            try {
                all(n.parts.get(0), around, calls);
            } catch (Fault f) {
                for (Part part : n.parts) {
                    if (part.what == 2 && KINDS[part.a].isInstance(f)) {
                        caught++;
                        all(part, f, calls);
                        return;
                    }
                }
                throw f;
            }
        } finally {
            if (last(n).what == 3) {
                finals++;
                all(last(n), around, calls);
            }
        }
    }

    private void work(Node n) {
        int at = (int) dials[n.b & 7];
        switch (n.what) {
            case 13:
                if (at > 16) {
                    throw new Range(n.place);
                }
                if (at < 0) {
                    throw new Size(n.place);
                }
                rows[n.a] = newRow(n.a / 2, at);
                break;
            case 14: rows[n.a] = null; break;
            case 15:
                if (rows[n.a] == null) {
                    throw new Missing(n.place);
                }
                dials[n.b] = size(n.a);
                break;
            case 16:
                needPlace(n, at, true);
                dials[n.c] = got(n.a, at);
                break;
            case 17:
                needPlace(n, at, true);
                put(n.a, at, dials[n.c]);
                break;
            case 18:
                needPlace(n, at, false);
                ((Probe[]) rows[n.a])[at] = new Probe();
                break;
            case 19: dials[n.a] = n.b * 0.125; break;
            case 20: turn(n, fine(n, dials[n.b], dials[n.c])); break;
            case 21: turn(n, rough(n, (float) dials[n.b], (float) dials[n.c])); break;
            case 22: turn(n, whole(n, (int) dials[n.b], (int) dials[n.c])); break;
            case 23: turn(n, wide(n, (long) dials[n.b], (long) dials[n.c])); break;
            default: log.add(dials[n.a]);
        }
    }

    private static Object newRow(int kind, int size) {
        switch (kind) {
            case 0: return new boolean[size];
            case 1: return new byte[size];
            case 2: return new char[size];
            case 3: return new short[size];
            case 4: return new int[size];
            case 5: return new long[size];
            case 6: return new float[size];
            case 7: return new double[size];
            default: return new Probe[size];
        }
    }

    private void needPlace(Node n, int at, boolean needsProbe) {
        if (rows[n.a] == null) {
            throw new Missing(n.place);
        }
        if (at < 0 || at >= size(n.a)) {
            throw new NoPlace(n.place);
        }
        if (needsProbe && rows[n.a] instanceof Probe[] && ((Probe[]) rows[n.a])[at] == null) {
            throw new Missing(n.place);
        }
    }

    private double got(int w, int i) {
        Object r = rows[w];
        if (r instanceof boolean[]) {
            return ((boolean[]) r)[i] ? 1 : 0;
        }
        if (r instanceof Probe[]) {
            return ((Probe[]) r)[i].number;
        }
        return r instanceof char[] ? ((char[]) r)[i] : java.lang.reflect.Array.getDouble(r, i);
    }

    private void put(int w, int i, double d) {
        switch (w / 2) {
            case 0: ((boolean[]) rows[w])[i] = d != 0; break;
            case 1: ((byte[]) rows[w])[i] = (byte) (int) d; break;
            case 2: ((char[]) rows[w])[i] = (char) (int) d; break;
            case 3: ((short[]) rows[w])[i] = (short) (int) d; break;
            case 4: ((int[]) rows[w])[i] = (int) d; break;
            case 5: ((long[]) rows[w])[i] = (long) d; break;
            case 6: ((float[]) rows[w])[i] = (float) d; break;
            case 7: ((double[]) rows[w])[i] = d; break;
            default: ((Probe[]) rows[w])[i].number = d;
        }
    }

    private void turn(Node n, double d) {
        if (Math.abs(d) > 1e15) {
            throw new Range(n.place);
        }
        dials[n.b] = d;
    }

    private static double fine(Node n, double x, double y) {
        if ((n.a == 3 || n.a == 4) && y == 0) {
            throw new Zero(n.place);
        }
        switch (n.a) {
            case 0: return x + y;
            case 1: return x - y;
            case 2: return x * y;
            case 3: return x / y;
            case 4: return x % y;
            case 5: return Math.min(x, y);
            case 6: return Math.max(x, y);
            case 7: return Math.copySign(x, y);
            case 8: return Math.abs(y);
            case 9: return Math.floor(y);
            case 10: return Math.ceil(y);
            case 11: return Math.rint(y);
            case 12: return Math.signum(y);
            default: return (double) (long) y;
        }
    }

    private static double rough(Node n, float x, float y) {
        if ((n.a == 3 || n.a == 4) && y == 0) {
            throw new Zero(n.place);
        }
        switch (n.a) {
            case 0: return x + y;
            case 1: return x - y;
            case 2: return x * y;
            case 3: return x / y;
            case 4: return x % y;
            case 5: return Math.min(x, y);
            case 6: return Math.max(x, y);
            case 7: return Math.copySign(x, y);
            case 8: return Math.abs(y);
            case 9: return (float) Math.floor(y);
            case 10: return (float) Math.ceil(y);
            case 11: return (float) Math.rint(y);
            case 12: return Math.signum(y);
            default: return (float) (long) y;
        }
    }

    private static int whole(Node n, int x, int y) {
        if ((n.a == 3 || n.a == 4) && y == 0) {
            throw new Zero(n.place);
        }
        switch (n.a) {
            case 0: return x + y;
            case 1: return x - y;
            case 2: return x * y;
            case 3: return x / y;
            case 4: return x % y;
            case 5: return x & y;
            case 6: return x | y;
            default: return x ^ y;
        }
    }

    private static long wide(Node n, long x, long y) {
        if ((n.a == 3 || n.a == 4) && y == 0) {
            throw new Zero(n.place);
        }
        switch (n.a) {
            case 0: return x + y;
            case 1: return x - y;
            case 2: return x * y;
            case 3: return x / y;
            case 4: return x % y;
            case 5: return x & y;
            case 6: return x | y;
            default: return x ^ y;
        }
    }

    double dial(int d) {
        return in(d, 0, 7) ? dials[d] : 0;
    }

    int size(int w) {
        if (!in(w, 0, 17)) {
            return -2;
        }
        return rows[w] == null ? -1 : java.lang.reflect.Array.getLength(rows[w]);
    }

    double value(int w, int i) {
        boolean there = in(w, 0, 17) && in(i, 0, size(w) - 1);
        return there && (w < 16 || isFitted(w, i)) ? got(w, i) : 0;
    }

    boolean isFitted(int w, int i) {
        return in(w, 16, 17) && in(i, 0, size(w) - 1) && ((Probe[]) rows[w])[i] != null;
    }

    double log(int i) {
        return in(i, 0, log.size() - 1) ? log.get(i) : 0;
    }

    boolean isMinus(int i) {
        return in(i, 0, log.size() - 1) && Double.toString(log.get(i)).startsWith("-");
    }

    int count(int what) {
        int[] counts = {routines[atHand].steps.size(), routines[atHand].open.size(), counted,
            log.size(), caught, finals};
        return in(what, 0, 5) ? counts[what] : -1;
    }

    int fault(int what) {
        if (thrown == null || !in(what, 0, 5)) {
            return -1;
        }
        int[] told = {thrown.kind, thrown.place, thrown.weight(), thrown.number,
            thrown.earlierOnes(), thrown.lastPlace()};
        return told[what];
    }
}
