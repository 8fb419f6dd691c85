/** FINE, ROUGH, WHOLE and WIDE: written answers, then pairs of awkward numbers against Java's own. */
public final class SumsTest {
    private static final Check CHECK = new Check("sums");
    private static final int X = 0;
    private static final int Y = 1;

    private static final double[] NUMBERS = {
        0.0, -0.0, 1, -1, 0.5, -0.5, 1.5, -1.5, 2.5, -2.5, 3.5, 0.25, -0.75, 0.1, -0.1, 1.0 / 3, 7, -7, 3, 8, 10,
        Math.nextDown(0.5), -Math.nextDown(0.5), Math.nextUp(0.5), -Math.nextUp(0.5), Math.nextDown(1.0),
        -Math.nextUp(1.0), Double.MIN_VALUE, -Double.MIN_VALUE, 1e-310, Double.MIN_NORMAL, -1e-300, Float.MIN_VALUE,
        -Float.MIN_VALUE, Float.MIN_VALUE / 2, -1e-46, 1e-40, Float.MIN_NORMAL, 1e-30, -1e-20, 16777217, -16777219,
        33554433.5, 1 << 30, 2147483647, 2147483647.5, 2147483648.0, -2147483648.0, -2147483649.0, 4294967296.0,
        -4294967295.0, 46341, 3037000500.0, 1e10 / 3, -123456789012.345, 562949953421312.5, -562949953421313.5,
        999999986991104.0, 999999999999999.9, -999999999999999.5, 1e15, -1e15, Math.nextDown(1e15), 1e-5, -12345.678};

    public static void main(String[] args) {
        fine();
        rough();
        whole();
        wide();
        pairs();
        CHECK.end();
    }

    private static void fine() {
        due(Desk.FINE, 0, 0.5, 0.25, 0.75);
        due(Desk.FINE, 1, 0.5, 0.25, 0.25);
        due(Desk.FINE, 2, -3, 0, -0.0);
        due(Desk.FINE, 3, 1, 3, 1.0 / 3);
        due(Desk.FINE, 3, -1, 1e15, -1e-15);
        thrown(Desk.FINE, 3, 1, 0, 7);
        thrown(Desk.FINE, 3, 0, -0.0, 7);
        thrown(Desk.FINE, 4, 5, 0, 7);
        due(Desk.FINE, 4, 7.5, 2, 1.5);
        due(Desk.FINE, 4, -7.5, 2, -1.5);
        due(Desk.FINE, 4, 7.5, -2, 1.5);
        due(Desk.FINE, 4, -8, 2, -0.0);
        due(Desk.FINE, 4, 1, 0.1, 0.09999999999999995);
        due(Desk.FINE, 5, 0, -0.0, -0.0);
        due(Desk.FINE, 5, -0.0, 0, -0.0);
        due(Desk.FINE, 5, 2, -3, -3);
        due(Desk.FINE, 6, 0, -0.0, 0);
        due(Desk.FINE, 6, -0.0, 0, 0);
        due(Desk.FINE, 6, -2, -3, -2);
        due(Desk.FINE, 7, 3, -0.0, -3);
        due(Desk.FINE, 7, -3, 0, 3);
        due(Desk.FINE, 7, 0, -5, -0.0);
        due(Desk.FINE, 8, 9, -0.0, 0);
        due(Desk.FINE, 8, 9, -2.5, 2.5);
        due(Desk.FINE, 9, 9, -2.5, -3);
        due(Desk.FINE, 9, 9, -0.0, -0.0);
        due(Desk.FINE, 9, 9, 0.875, 0);
        due(Desk.FINE, 10, 9, -0.875, -0.0);
        due(Desk.FINE, 10, 9, 2.125, 3);
        due(Desk.FINE, 11, 9, 2.5, 2);
        due(Desk.FINE, 11, 9, 3.5, 4);
        due(Desk.FINE, 11, 9, -2.5, -2);
        due(Desk.FINE, 11, 9, -0.5, -0.0);
        due(Desk.FINE, 11, 9, 0.5, 0);
        due(Desk.FINE, 12, 9, -0.0, -0.0);
        due(Desk.FINE, 12, 9, 0.125, 1);
        due(Desk.FINE, 12, 9, -7, -1);
        due(Desk.FINE, 13, 9, -0.5, 0);
        due(Desk.FINE, 13, 9, -7.75, -7);
        due(Desk.FINE, 0, 999999999999999.5, 0.5, 1e15);
        due(Desk.FINE, 1, -1e15, 0, -1e15);
        thrown(Desk.FINE, 0, 1e15, 0.125, 8);
        thrown(Desk.FINE, 1, -1e15, 0.125, 8);
        thrown(Desk.FINE, 2, 1e15, -2, 8);
        thrown(Desk.FINE, 3, 1e15, Double.MIN_VALUE, 8);
        thrown(Desk.FINE, 3, -1e15, Double.MIN_VALUE, 8);
    }

    private static void rough() {
        due(Desk.ROUGH, 0, 16777216, 1, 16777216);
        due(Desk.ROUGH, 0, 0.1, 0.2, 0.1f + 0.2f);
        due(Desk.ROUGH, 3, 1, 3, 1f / 3f);
        due(Desk.ROUGH, 2, 0.1, 0.1, 0.1f * 0.1f);
        thrown(Desk.ROUGH, 3, 1, 1e-60, 7);
        thrown(Desk.ROUGH, 4, 1, -1e-60, 7);
        thrown(Desk.ROUGH, 3, 1e15, Float.MIN_VALUE, 8);
        thrown(Desk.ROUGH, 2, 1e15, 1e15, 8);
        due(Desk.ROUGH, 0, 1e15, 0, 999999986991104.0);
        due(Desk.ROUGH, 4, 1, 0.1, 1f % 0.1f);
        due(Desk.ROUGH, 7, 2, -1e-60, -2);
        due(Desk.ROUGH, 9, 9, 16777217, 16777216);
        due(Desk.ROUGH, 10, 9, -1e-60, -0.0);
        due(Desk.ROUGH, 11, 9, Math.nextUp(0.5), 0);
        due(Desk.ROUGH, 12, 9, 1e-60, 0);
        due(Desk.ROUGH, 12, 9, -3, -1);
        due(Desk.ROUGH, 13, 9, 16777219.5, 16777220);
        due(Desk.ROUGH, 13, 9, -0.5, 0);
    }

    private static void whole() {
        due(Desk.WHOLE, 0, 2147483647, 1, -2147483648.0);
        due(Desk.WHOLE, 0, 1e15, 0.875, 2147483647);
        due(Desk.WHOLE, 1, -2147483648.0, 1, 2147483647);
        due(Desk.WHOLE, 2, 65536, 65536, 0);
        due(Desk.WHOLE, 3, -2147483648.0, -1, -2147483648.0);
        due(Desk.WHOLE, 3, -7.9, 2.9, -3);
        due(Desk.WHOLE, 4, -7.9, 2.9, -1);
        due(Desk.WHOLE, 4, -2147483648.0, -1, 0);
        thrown(Desk.WHOLE, 3, 5, 0.875, 7);
        thrown(Desk.WHOLE, 4, 5, -0.875, 7);
        due(Desk.WHOLE, 5, 12, 10, 8);
        due(Desk.WHOLE, 6, 12, 10, 14);
        due(Desk.WHOLE, 7, 12, 10, 6);
        due(Desk.WHOLE, 7, -1, 10, -11);
    }

    private static void wide() {
        due(Desk.WIDE, 0, 2147483647, 1, 2147483648.0);
        due(Desk.WIDE, 0, 999999999999999.0, 1, 1e15);
        thrown(Desk.WIDE, 0, 1e15, 1, 8);
        thrown(Desk.WIDE, 1, -1e15, 1, 8);
        due(Desk.WIDE, 2, 4294967296.0, 4294967296.0, 0);
        thrown(Desk.WIDE, 2, 1e15, 2, 8);
        due(Desk.WIDE, 3, -1e15, 7.9, -142857142857142.0);
        due(Desk.WIDE, 4, -1e15, 7.9, -6);
        thrown(Desk.WIDE, 3, 5, 0.875, 7);
        thrown(Desk.WIDE, 4, 5, -0.0, 7);
        due(Desk.WIDE, 5, 4294967298.0, 4294967297.0, 4294967296.0);
        due(Desk.WIDE, 6, 4294967298.0, 1, 4294967299.0);
        due(Desk.WIDE, 7, 4294967298.0, 2, 4294967296.0);
        thrown(Desk.WIDE, 6, 1e15, 1, 8);
    }

    private static Desk done(int what, int sum, double x, double y) {
        return new Desk(CHECK, what + " " + sum + " of " + x + " and " + y).turn(X, x).turn(Y, y).add(what, sum, X, Y);
    }

    private static void due(int what, int sum, double x, double y, double due) {
        done(what, sum, x, y).run(0).dial(X, due).dial(Y, y);
    }

    private static void thrown(int what, int sum, double x, double y, int kind) {
        done(what, sum, x, y).run(kind).faults(kind, 0).dial(X, x).dial(Y, y);
    }

    private static void pairs() {
        for (double x : NUMBERS) {
            for (double y : NUMBERS) {
                Desk desk = new Desk(CHECK, "pair " + x + " and " + y).turn(2, x).turn(3, y);
                for (int what = Desk.FINE; what <= Desk.WIDE; what++) {
                    for (int sum = 0; sum < (what <= Desk.ROUGH ? 14 : 8); sum++) {
                        pair(desk, what, sum, x, y);
                    }
                }
            }
        }
    }

    private static void pair(Desk desk, int what, int sum, double x, double y) {
        boolean isByZero = (sum == 3 || sum == 4) && divisor(what, y) == 0;
        double answer = isByZero ? 0 : answer(what, sum, x, y);
        int due = isByZero ? 7 : Math.abs(answer) > 1e15 ? 8 : 0;
        // No step copies a dial: its number without sign, then with its sign.
        desk.add(Desk.FINE, 8, X, 2).add(Desk.FINE, 7, X, 2).add(what, sum, X, 3).run(due)
            .dial(X, due == 0 ? answer : x).clear();
    }

    private static double divisor(int what, double y) {
        return what == Desk.FINE ? y : what == Desk.ROUGH ? (float) y : what == Desk.WHOLE ? (int) y : (long) y;
    }

    private static double answer(int what, int sum, double x, double y) {
        switch (what) {
            case Desk.FINE: return fineOf(sum, x, y);
            case Desk.ROUGH: return roughOf(sum, (float) x, (float) y);
            case Desk.WHOLE: return (int) wideOf(sum, (int) x, (int) y);
            default: return wideOf(sum, (long) x, (long) y);
        }
    }

    private static double fineOf(int sum, double x, double y) {
        double[] ofBoth = {x + y, x - y, x * y, x / y, x % y, Math.min(x, y), Math.max(x, y), Math.copySign(x, y)};
        double[] ofOne = {Math.abs(y), Math.floor(y), Math.ceil(y), Math.rint(y), Math.signum(y), (double) (long) y};
        return sum < 8 ? ofBoth[sum] : ofOne[sum - 8];
    }

    private static double roughOf(int sum, float x, float y) {
        float[] ofBoth = {x + y, x - y, x * y, x / y, x % y, Math.min(x, y), Math.max(x, y), Math.copySign(x, y)};
        double[] ofOne = {Math.abs(y), Math.floor(y), Math.ceil(y), Math.rint(y), Math.signum(y), (double) (long) y};
        return sum < 8 ? ofBoth[sum] : ofOne[sum - 8];
    }

    /** Ints too: what they answer is what longs do, cut to an int. */
    private static long wideOf(int sum, long x, long y) {
        long divisor = y == 0 ? 1 : y;
        long[] all = {x + y, x - y, x * y, x / divisor, x % divisor, x & y, x | y, x ^ y};
        return all[sum];
    }
}
