/** 'Terms', what the steps MAKE to NOTE do: a test for each sentence that names an edge. */
public final class StepsEdgesTest {
    private static final Check CHECK = new Check("edges of steps");

    public static void main(String[] args) {
        makeAboveSixteen();
        makeBelowZero();
        makeIsANewRow();
        dropOfAMissingRow();
        dropForgets();
        countOfAMissingRow();
        countOfNoPlacesAndOfAll();
        placeInAMissingRow();
        placeThatIsNotThere();
        placeThatHoldsNone();
        fitOnceMore();
        oneDialTwice();
        setFromEndToEnd();
        fineZero();
        fineRange();
        fineSumsOfMinusZero();
        fineRest();
        fineLesser();
        fineGreater();
        fineSign();
        fineWithoutSign();
        fineNotAbove();
        fineNotBelow();
        fineNearest();
        fineOneOrMinusOne();
        fineCastToLong();
        roughZero();
        roughRange();
        roughByFloats();
        roughOfOne();
        roughCastToLong();
        wholeZero();
        wholeWraps();
        wholeOfLargeNumbers();
        wholeCutsOff();
        wholeBits();
        wideZero();
        wideRange();
        wideWraps();
        wideCutsOff();
        wideBits();
        noteOfMinusZero();
        CHECK.end();
    }

    private static Desk desk(String name) {
        return new Desk(CHECK, name);
    }

    /** 'RANGE if that is above 16' */
    private static void makeAboveSixteen() {
        for (int w = 0; w < 18; w++) {
            desk("MAKE 16 of " + w).steps("SET 0 128").add(Desk.MAKE, w, 0).run(0).size(w, 16);
            desk("MAKE 17 of " + w).steps("SET 0 136").add(Desk.MAKE, w, 0).run(8).faults(8, 1, 106).size(w, -1);
            desk("MAKE 16 and most of 1 of " + w).steps("SET 0 135").add(Desk.MAKE, w, 0).run(0).size(w, 16);
            desk("MAKE of the most of SET of " + w).steps("SET 0 2147483647").add(Desk.MAKE, w, 0).run(8).size(w, -1);
        }
    }

    /** 'SIZE if it is below 0' */
    private static void makeBelowZero() {
        for (int w = 0; w < 18; w++) {
            desk("MAKE 0 of " + w).steps("SET 0 0").add(Desk.MAKE, w, 0).run(0).size(w, 0);
            desk("MAKE -0 of " + w).turn(0, -0.0).add(Desk.MAKE, w, 0).run(0).size(w, 0);
            desk("MAKE -1 of " + w).steps("SET 0 -8").add(Desk.MAKE, w, 0).run(5).faults(5, 1, 3).size(w, -1);
            desk("MAKE of less than 1 below 0 of " + w).steps("SET 0 -7").add(Desk.MAKE, w, 0).run(0).size(w, 0);
            desk("MAKE of the least of SET of " + w).steps("SET 0 -2147483648").add(Desk.MAKE, w, 0).run(5).size(w, -1);
        }
    }

    /** 'the row is a new one', whatever it was before. */
    private static void makeIsANewRow() {
        for (int w = 0; w < 18; w++) {
            for (int size : new int[] {1, 2, 16}) {
                Desk desk = desk("MAKE anew " + size + " of " + w).steps("SET 0 16, SET 1 8").add(Desk.MAKE, w, 0);
                if (w >= 16) {
                    desk.add(Desk.FIT, w, 7).add(Desk.FIT, w, 1);
                }
                desk.add(Desk.PUT, w, 7, 1).add(Desk.PUT, w, 1, 1).run(0).value(w, 0, 1).value(w, 1, 1).clear()
                    .add(Desk.SET, 0, 8 * size).add(Desk.MAKE, w, 0).run(0).size(w, size);
                for (int i = 0; i < 16; i++) {
                    desk.value(w, i, 0).fitted(w, i, false);
                }
            }
        }
    }

    /** 'DROP: the row is MISSING', also if it was before. */
    private static void dropOfAMissingRow() {
        for (int w = 0; w < 18; w++) {
            desk("DROP of " + w).add(Desk.DROP, w).run(0).size(w, -1).add(Desk.MAKE, w, 0).run(0).size(w, 0)
                .add(Desk.DROP, w).add(Desk.DROP, w).run(0).size(w, -1).size((w + 1) % 18, -1);
        }
    }

    private static void dropForgets() {
        desk("DROP and MAKE").steps("SET 0 8, MAKE 14 0, PUT 14 7 0, MAKE 16 0, FIT 16 7, PUT 16 7 0, DROP 14, DROP 16").run(0)
            .value(14, 0, 0).value(16, 0, 0).fitted(16, 0, false).clear().steps("MAKE 14 0, MAKE 16 0").run(0)
            .value(14, 0, 0).value(16, 0, 0).fitted(16, 0, false).size(14, 1).size(16, 1);
    }

    /** 'COUNT: dial b becomes the number of places; MISSING' */
    private static void countOfAMissingRow() {
        for (int w = 0; w < 18; w++) {
            desk("COUNT lacks " + w).steps("SET 2 80").add(Desk.COUNT, w, 2).run(3).faults(3, 1, 11, 0, 0, 1).dial(2, 10);
        }
    }

    private static void countOfNoPlacesAndOfAll() {
        for (int w = 0; w < 18; w++) {
            for (int size = 0; size <= 16; size += 8) {
                desk("COUNT of " + size + " in " + w).steps("SET 2 80").add(Desk.SET, 0, 8 * size).add(Desk.MAKE, w, 0)
                    .add(Desk.COUNT, w, 2).run(0).dial(2, size);
            }
        }
    }

    /** The steps that work with a place of the row: FIT only of PROBES. */
    private static int[] stepsOf(int w) {
        return w < 16 ? new int[] {Desk.GET, Desk.PUT} : new int[] {Desk.GET, Desk.PUT, Desk.FIT};
    }

    /** 'MISSING, if the row is': before the place is looked at. */
    private static void placeInAMissingRow() {
        for (int w = 0; w < 18; w++) {
            for (int what : stepsOf(w)) {
                for (int place : new int[] {-1, 0, 16}) {
                    desk(what + " lacks row " + w).add(Desk.SET, 0, 8 * place).steps("SET 1 80").add(what, w, 0, 1).run(3)
                        .faults(3, 2, 11, 0, 0, 2).dial(1, 10).size(w, -1);
                }
            }
        }
    }

    /** 'else PLACE, if it has no such place' */
    private static void placeThatIsNotThere() {
        for (int w = 0; w < 18; w++) {
            for (int what : stepsOf(w)) {
                for (int size : new int[] {0, 1, 15, 16}) {
                    for (int place : new int[] {-1, size, 16, 17, 1000}) {
                        desk(what + " lacks place " + place + " of " + size + " in " + w).add(Desk.SET, 0, 8 * size)
                            .add(Desk.MAKE, w, 0).add(Desk.SET, 0, 8 * place).steps("SET 1 80").add(what, w, 0, 1).run(4)
                            .faults(4, 4, 1, 0, 0, 4).dial(1, 10).size(w, size);
                    }
                }
            }
        }
    }

    /** 'then, of PROBES, MISSING, if that place holds NONE' */
    private static void placeThatHoldsNone() {
        for (int w = 16; w < 18; w++) {
            for (int what : new int[] {Desk.GET, Desk.PUT}) {
                desk(what + " lacks a probe of " + w).steps("SET 0 24, SET 1 8, SET 2 16").add(Desk.MAKE, w, 0)
                    .add(Desk.FIT, w, 1).add(what, w, 1, 3).run(0).clear().add(what, w, 7, 0).run(3).faults(3, 0, 11)
                    .clear().add(what, w, 2, 0).run(3).clear().add(what, w, 0, 0).run(4).dial(0, 3).fitted(w, 0, false)
                    .fitted(w, 1, true).fitted(w, 2, false);
            }
        }
    }

    /** 'FIT: that place holds a new PROBE, with 0', also if it held one before. */
    private static void fitOnceMore() {
        for (int w = 16; w < 18; w++) {
            desk("FIT of " + w).steps("SET 0 128, SET 1 120, SET 2 20").add(Desk.MAKE, w, 0).add(Desk.FIT, w, 1)
                .add(Desk.FIT, w, 7).run(0).fitted(w, 15, true).fitted(w, 0, true).fitted(w, 1, false).value(w, 15, 0)
                .clear().add(Desk.PUT, w, 1, 2).add(Desk.PUT, w, 7, 2).run(0).value(w, 15, 2.5).value(w, 0, 2.5)
                .clear().add(Desk.FIT, w, 1).run(0).value(w, 15, 0).value(w, 0, 2.5).fitted(w, 15, true)
                .clear().add(Desk.GET, w, 1, 2).run(0).dial(2, 0).fitted(33 - w, 15, false);
        }
    }

    /** A step may name one dial twice: what it held before is what is looked at. */
    private static void oneDialTwice() {
        desk("GET 14 0 0").steps("SET 0 16, SET 1 8, SET 2 40, MAKE 14 0, PUT 14 1 2, SET 0 8, GET 14 0 0").run(0).dial(0, 5);
        desk("PUT 14 1 1").steps("SET 0 16, SET 1 8, MAKE 14 0, PUT 14 1 1").run(0).value(14, 1, 1).dial(1, 1);
        desk("FINE 1 0 0").steps("SET 0 16, FINE 1 0 0").run(0).dial(0, 0);
        desk("FINE 3 0 0").steps("SET 0 16, FINE 3 0 0").run(0).dial(0, 1);
    }

    /** 'SET: dial a becomes b / 8, b being an int' */
    private static void setFromEndToEnd() {
        desk("SET").steps("SET 0 2147483647, SET 1 -2147483648, SET 2 1, SET 3 -1, SET 4 7, SET 5 -9, SET 6 8").run(0)
            .dial(0, 268435455.875).dial(1, -268435456).dial(2, 0.125).dial(3, -0.125).dial(4, 0.875).dial(5, -1.125)
            .dial(6, 1);
        desk("SET 0").turn(0, -0.0).steps("SET 0 0, NOTE 0").run(0).dial(0, 0.0).logs(0.0);
    }

    private static Desk done(String step, int sum, double x, double y) {
        return desk(step + " " + sum + " of " + x + " and " + y).turn(0, x).turn(1, y).steps(step + " " + sum + " 0 1");
    }

    private static void due(String step, int sum, double x, double y, double due) {
        done(step, sum, x, y).run(0).dial(0, due).dial(1, y).noFault();
    }

    private static void thrown(String step, int sum, double x, double y, int kind) {
        done(step, sum, x, y).run(kind).faults(kind, 0, kind == 7 ? 101 : 106, 0, 0, 0).dial(0, x).dial(1, y);
    }

    /** A sum of y alone, whatever x is: each y with what is due. */
    private static void ofOne(String step, int sum, double... numbers) {
        for (int i = 0; i < numbers.length; i += 2) {
            due(step, sum, -3, numbers[i], numbers[i + 1]);
            due(step, sum, 1e15, numbers[i], numbers[i + 1]);
        }
    }

    /** '3, 4: ZERO, if y .. is 0' */
    private static void fineZero() {
        for (int sum = 3; sum <= 4; sum++) {
            for (double x : new double[] {0, -0.0, 1, -1e15}) {
                thrown("FINE", sum, x, 0, 7);
                thrown("FINE", sum, x, -0.0, 7);
            }
            due("FINE", sum, 0, Double.MIN_VALUE, 0);
            due("FINE", sum, -0.0, 1e15, -0.0);
        }
        due("FINE", 3, Double.MIN_VALUE, Double.MIN_VALUE, 1);
        due("FINE", 3, Double.MIN_VALUE, 1e15, 0);
        due("FINE", 3, -Double.MIN_VALUE, 1e15, -0.0);
        for (int sum = 0; sum <= 13; sum++) {
            if (sum != 3 && sum != 4) {
                done("FINE", sum, 5, 0).run(0);
                done("FINE", sum, 5, -0.0).run(0);
            }
        }
    }

    /** 'Then RANGE, if it is beyond what a dial may hold.' */
    private static void fineRange() {
        due("FINE", 0, 1e15, 0, 1e15);
        due("FINE", 1, -1e15, 0, -1e15);
        thrown("FINE", 0, 1e15, 0.125, 8);
        thrown("FINE", 0, -1e15, -0.125, 8);
        thrown("FINE", 1, 1e15, -0.125, 8);
        thrown("FINE", 1, -1e15, 0.125, 8);
        due("FINE", 2, 5e14, 2, 1e15);
        due("FINE", 2, 5e14, -2, -1e15);
        thrown("FINE", 2, 5e14, 2.125, 8);
        thrown("FINE", 2, -1e15, 1e15, 8);
        due("FINE", 3, 5e14, 0.5, 1e15);
        thrown("FINE", 3, 5e14, 0.375, 8);
        thrown("FINE", 3, 1e15, Double.MIN_VALUE, 8);
        thrown("FINE", 3, -1e15, Double.MIN_VALUE, 8);
        due("FINE", 7, 1e15, -1, -1e15);
        ofOne("FINE", 8, -1e15, 1e15);
        ofOne("FINE", 9, -1e15, -1e15, 0.125 - 1e15, -1e15);
        ofOne("FINE", 10, 1e15, 1e15, 1e15 - 0.125, 1e15);
        ofOne("FINE", 11, 1e15 - 0.125, 1e15, 0.125 - 1e15, -1e15);
    }

    /** The sign of 0 is that of doubles. */
    private static void fineSumsOfMinusZero() {
        due("FINE", 0, -0.0, -0.0, -0.0);
        due("FINE", 0, -0.0, 0, 0);
        due("FINE", 0, 1, -1, 0);
        due("FINE", 1, -0.0, 0, -0.0);
        due("FINE", 1, 0, 0, 0);
        due("FINE", 2, -1, 0, -0.0);
        due("FINE", 2, -1, -0.0, 0);
        due("FINE", 2, Double.MIN_VALUE, -0.5, -0.0);
    }

    /** '4 what x leaves when divided by y (with x's sign, the quotient cut off toward 0)' */
    private static void fineRest() {
        due("FINE", 4, 7, 3, 1);
        due("FINE", 4, -7, 3, -1);
        due("FINE", 4, 7, -3, 1);
        due("FINE", 4, -7, -3, -1);
        due("FINE", 4, 6, 3, 0);
        due("FINE", 4, -6, 3, -0.0);
        due("FINE", 4, 6, -3, 0);
        due("FINE", 4, 0, 3, 0);
        due("FINE", 4, -0.0, 3, -0.0);
        due("FINE", 4, 2.5, 3, 2.5);
        due("FINE", 4, -2.5, 1e15, -2.5);
        due("FINE", 4, 3, 3, 0);
        due("FINE", 4, -3, 3, -0.0);
        due("FINE", 4, 0.75, 0.5, 0.25);
        due("FINE", 4, -0.75, 0.5, -0.25);
        due("FINE", 4, 0.75, -0.5, 0.25);
        due("FINE", 4, -1, 1, -0.0);
        due("FINE", 4, 1, 0.1, 0.09999999999999995);
        due("FINE", 4, 1e15, 0.1, 1e15 % 0.1);
        due("FINE", 4, -1e15, 0.3, -1e15 % 0.3);
        due("FINE", 4, 1e15, Double.MIN_VALUE, 0);
        due("FINE", 4, 1e15, 1e-310, 1e15 % 1e-310);
        due("FINE", 4, 1e15 - 0.125, 1e15, 1e15 - 0.125);
    }

    /** '5 the lesser .. (-0 is less than 0)' */
    private static void fineLesser() {
        due("FINE", 5, 0, -0.0, -0.0);
        due("FINE", 5, -0.0, 0, -0.0);
        due("FINE", 5, -0.0, -0.0, -0.0);
        due("FINE", 5, 0, 0, 0);
        due("FINE", 5, -1, -0.0, -1);
        due("FINE", 5, 1e15, 1e15 - 0.125, 1e15 - 0.125);
        due("FINE", 5, 2, 3, 2);
        due("FINE", 5, 0, Double.MIN_VALUE, 0);
    }

    /** '6 the greater one' */
    private static void fineGreater() {
        due("FINE", 6, 0, -0.0, 0);
        due("FINE", 6, -0.0, 0, 0);
        due("FINE", 6, -0.0, -0.0, -0.0);
        due("FINE", 6, -0.0, -1, -0.0);
        due("FINE", 6, 1e15 - 0.125, 1e15, 1e15);
        due("FINE", 6, 3, 2, 3);
        due("FINE", 6, 0, Double.MIN_VALUE, Double.MIN_VALUE);
    }

    /** '7 x with y's sign (that of -0 is -)' */
    private static void fineSign() {
        due("FINE", 7, 3, -0.0, -3);
        due("FINE", 7, 3, 0, 3);
        due("FINE", 7, -3, 0, 3);
        due("FINE", 7, -3, -0.0, -3);
        due("FINE", 7, 0, -0.0, -0.0);
        due("FINE", 7, 0, -1e15, -0.0);
        due("FINE", 7, -0.0, 1, 0);
        due("FINE", 7, -0.0, -Double.MIN_VALUE, -0.0);
    }

    /** '8 y without sign' */
    private static void fineWithoutSign() {
        ofOne("FINE", 8, -0.0, 0, 0, 0, -2.5, 2.5, 2.5, 2.5, -Double.MIN_VALUE, Double.MIN_VALUE);
    }

    /** '9 the greatest whole number not above y', '(.. keep y's sign if they are 0)' */
    private static void fineNotAbove() {
        ofOne("FINE", 9, 0, 0, -0.0, -0.0, 0.875, 0, Double.MIN_VALUE, 0, 1, 1, 1.125, 1, -0.125, -1, -Double.MIN_VALUE, -1,
            -1, -1, -1.125, -2, 2147483648.5, 2147483648.0, -2147483648.5, -2147483649.0, 1e15 - 0.125, 1e15 - 1);
    }

    /** '10 the least one not below' */
    private static void fineNotBelow() {
        ofOne("FINE", 10, 0, 0, -0.0, -0.0, -0.875, -0.0, -Double.MIN_VALUE, -0.0, 1, 1, 1.125, 2, 0.125, 1,
            Double.MIN_VALUE, 1, -1, -1, -1.125, -1, 2147483647.5, 2147483648.0, -2147483649.5, -2147483649.0,
            0.125 - 1e15, 1 - 1e15);
    }

    /** '11 the nearest one, of two the even one' */
    private static void fineNearest() {
        ofOne("FINE", 11, 0, 0, -0.0, -0.0, 0.5, 0, -0.5, -0.0, 0.625, 1, -0.625, -1, 0.375, 0, -0.375, -0.0, 1.5, 2, -1.5, -2,
            2.5, 2, -2.5, -2, 3.5, 4, -3.5, -4, Math.nextUp(0.5), 1, Math.nextDown(0.5), 0, -Math.nextUp(2.5), -3,
            562949953421312.5, 562949953421312.0, 562949953421313.5, 562949953421314.0, Double.MIN_VALUE, 0);
    }

    /** '12 1, -1, or y if that is 0 (or -0)' */
    private static void fineOneOrMinusOne() {
        ofOne("FINE", 12, 0, 0, -0.0, -0.0, 1e15, 1, -1e15, -1, Double.MIN_VALUE, 1, -Double.MIN_VALUE, -1);
    }

    /** '13 y cast to long, as a double' */
    private static void fineCastToLong() {
        ofOne("FINE", 13, 0, 0, -0.0, 0, -0.875, 0, 0.875, 0, 1.875, 1, -1.875, -1, 1e15 - 0.125, 1e15 - 1, -1e15, -1e15,
            4294967296.5, 4294967296.0);
    }

    /** 'y (of ROUGH as a float) is 0' */
    private static void roughZero() {
        for (int sum = 3; sum <= 4; sum++) {
            for (double y : new double[] {0, -0.0, 1e-60, -1e-60, Double.MIN_VALUE, Float.MIN_VALUE / 2.0}) {
                thrown("ROUGH", sum, 5, y, 7);
                thrown("ROUGH", sum, 0, y, 7);
            }
            due("ROUGH", sum, 0, Float.MIN_VALUE, 0);
            // More than half of the least float is cast to the least float.
            due("ROUGH", sum, -0.0, Math.nextUp(Float.MIN_VALUE / 2.0), -0.0);
        }
        due("ROUGH", 3, Float.MIN_VALUE, Math.nextUp(Float.MIN_VALUE / 2.0), 1);
        due("ROUGH", 3, Float.MIN_VALUE, 4, 0);
        due("ROUGH", 3, 1e-60, 1, 0);
        due("ROUGH", 3, -1e-60, 1, -0.0);
    }

    /** 'Then RANGE', by the float that comes out. */
    private static void roughRange() {
        due("ROUGH", 0, 1e15, 0, 999999986991104.0);
        due("ROUGH", 0, 1e15, 1e6, 999999986991104.0);
        thrown("ROUGH", 0, 1e15, 67108864, 8);
        thrown("ROUGH", 1, -1e15, 67108864, 8);
        thrown("ROUGH", 2, 1e15, -1e15, 8);
        thrown("ROUGH", 3, 1e15, Float.MIN_VALUE, 8);
        thrown("ROUGH", 3, -1e15, Float.MIN_VALUE, 8);
        due("ROUGH", 7, 1e15, -1, -999999986991104.0);
        ofOne("ROUGH", 10, 1e15, 999999986991104.0);
    }

    /** 'x and y are cast to float first, all is done by floats' */
    private static void roughByFloats() {
        due("ROUGH", 0, 16777216, 1, 16777216);
        due("ROUGH", 0, 0.1, 0.2, 0.1f + 0.2f);
        due("ROUGH", 1, 1, 0.9, 1f - 0.9f);
        due("ROUGH", 1, 16777217, 16777216, 0);
        due("ROUGH", 1, 16777216, -1, 16777216);
        due("ROUGH", 2, 0.1, 0.1, 0.1f * 0.1f);
        due("ROUGH", 2, 1e-30, 1e-30, 0);
        due("ROUGH", 2, -1e-30, 1e-30, -0.0);
        due("ROUGH", 3, 1, 3, 1f / 3f);
        due("ROUGH", 4, 1, 0.1, 1f % 0.1f);
        due("ROUGH", 4, -1e15, 0.3, -1e15f % 0.3f);
        due("ROUGH", 4, -6, 3, -0.0);
        due("ROUGH", 5, 16777217, 16777216, 16777216);
        due("ROUGH", 5, 0, -1e-60, -0.0);
        due("ROUGH", 6, -1e-60, 1e-60, 0);
        due("ROUGH", 6, 0.1, 0.05, 0.1f);
        due("ROUGH", 7, 0.1, -1e-60, -0.1f);
        due("ROUGH", 7, -1e-60, 1, 0);
    }

    /** '(9 to 11 by the double that the float is' */
    private static void roughOfOne() {
        ofOne("ROUGH", 8, -0.0, 0, -0.1, 0.1f, -1e-60, 0);
        ofOne("ROUGH", 9, -0.0, -0.0, -1e-60, -0.0, 16777217, 16777216, Math.nextDown(3.0), 3, -0.1, -1, -Float.MIN_VALUE, -1,
            Float.MIN_VALUE, 0);
        ofOne("ROUGH", 10, -0.0, -0.0, -0.875, -0.0, 1e-60, 0, Math.nextUp(3.0), 3, 0.1, 1, Float.MIN_VALUE, 1);
        ofOne("ROUGH", 11, 0.5, 0, -0.5, -0.0, 1.5, 2, 2.5, 2, Math.nextUp(2.5), 2, Math.nextUp(0.5), 0, Math.nextUp(0.5f), 1,
            8388607.5, 8388608);
        ofOne("ROUGH", 12, 0, 0, -0.0, -0.0, 1e-60, 0, -1e-60, -0.0, Float.MIN_VALUE, 1, -0.1, -1);
    }

    /** '13 the float cast to long)' */
    private static void roughCastToLong() {
        ofOne("ROUGH", 13, -0.0, 0, -0.875, 0, 1.875, 1, Math.nextDown(3.0), 3, 16777219, 16777220, 1e15, 999999986991104.0,
            -1e15, -999999986991104.0);
    }

    /** 'ZERO if y is 0', y cast to int. */
    private static void wholeZero() {
        for (int sum = 3; sum <= 4; sum++) {
            for (double y : new double[] {0, -0.0, 0.875, -0.875, Double.MIN_VALUE}) {
                thrown("WHOLE", sum, 5, y, 7);
                thrown("WHOLE", sum, 0, y, 7);
            }
        }
        due("WHOLE", 3, 5, 1.125, 5);
        due("WHOLE", 4, 5, -1.125, 0);
        due("WHOLE", 3, 5, 4294967296.0, 0);
        for (int sum : new int[] {0, 1, 2, 5, 6, 7}) {
            done("WHOLE", sum, 5, 0.875).run(0);
        }
    }

    /** '0 x + y, 1 x - y, 2 x * y (they wrap)' */
    private static void wholeWraps() {
        due("WHOLE", 0, 2147483647, 1, -2147483648.0);
        due("WHOLE", 0, -2147483648.0, -1, 2147483647);
        due("WHOLE", 0, 2147483647, 2147483647, -2);
        due("WHOLE", 1, -2147483648.0, 1, 2147483647);
        due("WHOLE", 1, 2147483647, -1, -2147483648.0);
        due("WHOLE", 1, 0, -2147483648.0, -2147483648.0);
        due("WHOLE", 2, 65536, 65536, 0);
        due("WHOLE", 2, 65536, 32768, -2147483648.0);
        due("WHOLE", 2, 46341, 46341, -2147479015);
        due("WHOLE", 2, 2147483647, 2147483647, 1);
        due("WHOLE", 3, -2147483648.0, -1, -2147483648.0);
        due("WHOLE", 4, -2147483648.0, -1, 0);
    }

    /** 'with x, y cast to int', which stay at the least and the greatest. */
    private static void wholeOfLargeNumbers() {
        due("WHOLE", 0, 1e15, 0, 2147483647);
        due("WHOLE", 0, -1e15, 0, -2147483648.0);
        due("WHOLE", 0, 0, 4294967296.0, 2147483647);
        due("WHOLE", 0, 1e15, -1e15, -1);
        due("WHOLE", 5, 4294967297.0, -4294967297.0, 0);
    }

    /** '3 x / y, 4 x % y (cut off toward 0', and so are x and y. */
    private static void wholeCutsOff() {
        due("WHOLE", 0, 1.875, 1.875, 2);
        due("WHOLE", 0, -1.875, -1.875, -2);
        due("WHOLE", 0, -0.875, -0.0, 0);
        due("WHOLE", 3, 7, 2, 3);
        due("WHOLE", 3, -7, 2, -3);
        due("WHOLE", 3, 7, -2, -3);
        due("WHOLE", 3, -7.875, -2.875, 3);
        due("WHOLE", 3, -1, 2, 0);
        due("WHOLE", 4, 7, 3, 1);
        due("WHOLE", 4, -7, 3, -1);
        due("WHOLE", 4, 7, -3, 1);
        due("WHOLE", 4, -6, 3, 0);
    }

    /** '5 x and y, 6 x or y, 7 either alone, bit by bit' */
    private static void wholeBits() {
        due("WHOLE", 5, 12, 10, 8);
        due("WHOLE", 6, 12, 10, 14);
        due("WHOLE", 7, 12, 10, 6);
        due("WHOLE", 5, -1, -2147483648.0, -2147483648.0);
        due("WHOLE", 6, 2147483647, -2147483648.0, -1);
        due("WHOLE", 7, -1, -2147483648.0, 2147483647);
        due("WHOLE", 7, 5, 5, 0);
    }

    /** 'WIDE: likewise by longs' */
    private static void wideZero() {
        for (int sum = 3; sum <= 4; sum++) {
            for (double y : new double[] {0, -0.0, 0.875, -0.875}) {
                thrown("WIDE", sum, 1e15, y, 7);
                thrown("WIDE", sum, 0, y, 7);
            }
        }
        for (int sum : new int[] {0, 1, 2, 5, 6, 7}) {
            done("WIDE", sum, 5, 0.875).run(0);
        }
    }

    /** 'then RANGE, if, as a double, it is beyond' */
    private static void wideRange() {
        due("WIDE", 0, 999999999999999.0, 1, 1e15);
        thrown("WIDE", 0, 1e15, 1, 8);
        due("WIDE", 0, 1e15, 0.875, 1e15);
        due("WIDE", 1, -999999999999999.0, 1, -1e15);
        thrown("WIDE", 1, -1e15, 1, 8);
        due("WIDE", 2, 500000000000000.0, 2, 1e15);
        thrown("WIDE", 2, 333333333333334.0, 3, 8);
        due("WIDE", 2, 500000000000000.0, -2, -1e15);
        thrown("WIDE", 2, 333333333333334.0, -3, 8);
        thrown("WIDE", 6, 1e15, 1, 8);
        thrown("WIDE", 7, 1e15, 1, 8);
        thrown("WIDE", 7, 1e15, -1, 8);
        due("WIDE", 7, 999999999999999.0, -1, -1e15);
    }

    /** Products of longs wrap, into what a dial may hold or beyond that. */
    private static void wideWraps() {
        due("WIDE", 2, 4294967296.0, 4294967296.0, 0);
        due("WIDE", 2, 4294967297.0, 4294967296.0, 4294967296.0);
        due("WIDE", 2, 4294967295.0, 8589934592.0, -8589934592.0);
        thrown("WIDE", 2, 4294967296.0, 2147483648.0, 8);
        due("WIDE", 0, 2147483647, 1, 2147483648.0);
        due("WIDE", 1, -2147483648.0, 1, -2147483649.0);
        due("WIDE", 2, 65536, 65536, 4294967296.0);
        due("WIDE", 3, -2147483648.0, -1, 2147483648.0);
    }

    private static void wideCutsOff() {
        due("WIDE", 0, -0.875, -0.0, 0);
        due("WIDE", 0, -1.875, -1.875, -2);
        due("WIDE", 3, 1e15, 7, 142857142857142.0);
        due("WIDE", 3, -1e15, 7.875, -142857142857142.0);
        due("WIDE", 4, 1e15, 7, 6);
        due("WIDE", 4, -1e15, 7.875, -6);
        due("WIDE", 4, 1e15, -7, 6);
        due("WIDE", 4, -14, 7, 0);
    }

    private static void wideBits() {
        due("WIDE", 5, 4294967298.0, 4294967299.0, 4294967298.0);
        due("WIDE", 6, 4294967298.0, 1, 4294967299.0);
        due("WIDE", 7, 4294967298.0, 4294967299.0, 1);
        due("WIDE", 5, -1, 1e15, 1e15);
        due("WIDE", 5, -4294967296.0, 4294967295.0, 0);
        due("WIDE", 6, -4294967296.0, 4294967295.0, -1);
    }

    /** 'NOTE: the dial's double is appended to the LOG', with its sign. */
    private static void noteOfMinusZero() {
        desk("NOTE").turn(0, -0.0).turn(1, 1e15).turn(2, -1e15).turn(3, -Double.MIN_VALUE).turn(4, 0.1).turn(5, 0)
            .steps("NOTE 0, NOTE 1, NOTE 2, NOTE 3, NOTE 4, NOTE 5, NOTE 0").run(0)
            .logs(-0.0, 1e15, -1e15, -Double.MIN_VALUE, 0.1, 0, -0.0);
    }
}
