/** 'Terms', dials and rows: a test for each sentence that names an edge. */
public final class RowsEdgesTest {
    private static final Check CHECK = new Check("edges of rows");

    public static void main(String[] args) {
        dialsAreZeroAtFirst();
        noDialIsAboveTheMost();
        noDialIsBelowTheLeast();
        everyRowIsOfItsKind();
        rowsAreMissingAtFirst();
        rowsOfNoPlaces();
        rowsOfSixteenPlaces();
        rowsAreApart();
        placesAreZeroAtFirst();
        probesAreNoneAtFirst();
        flags();
        bytes();
        chars();
        shorts();
        ints();
        longs();
        floats();
        doublesAndProbesAsTheyAre();
        theIntOfADialIsCutOff();
        theIntOfADialStaysAtItsEnds();
        CHECK.end();
    }

    private static Desk desk(String name) {
        return new Desk(CHECK, name);
    }

    /** 'The DIALS 0 .. 7 hold doubles, 0 at first' */
    private static void dialsAreZeroAtFirst() {
        Desk desk = desk("dials at first");
        for (int d = 0; d < 8; d++) {
            desk.dial(d, 0.0);
        }
        desk.steps("NOTE 0, NOTE 7").run(0).logs(0, 0);
    }

    /** 'none is ever above 1000000000000000'; 1e15 and an eighth is the next double. */
    private static void noDialIsAboveTheMost() {
        String[] sums = {"FINE 0 0 1", "WIDE 0 0 1", "ROUGH 0 0 1"};
        for (String sum : sums) {
            desk(sum + " far above").turn(0, 1e15).turn(1, 1e15).steps(sum).run(8).dial(0, 1e15);
        }
        desk("the most").turn(0, 1e15 - 0.125).turn(1, 0.125).steps("FINE 0 0 1").run(0).dial(0, 1e15);
        desk("right above").turn(0, 1e15).turn(1, 0.125).steps("FINE 0 0 1").run(8).dial(0, 1e15);
        desk("the most of WIDE").turn(0, 1e15 - 1).turn(1, 1).steps("WIDE 0 0 1").run(0).dial(0, 1e15);
        desk("right above by WIDE").turn(0, 1e15).turn(1, 1).steps("WIDE 0 0 1").run(8).dial(0, 1e15);
        // Floats there are 67108864 from one another, and none of them is 1e15.
        desk("the most of ROUGH").turn(0, 1e15).turn(1, 0).steps("ROUGH 0 0 1").run(0).dial(0, 999999986991104.0);
        desk("right above by ROUGH").turn(0, 1e15).turn(1, 67108864).steps("ROUGH 0 0 1").run(8).dial(0, 1e15);
    }

    /** 'or below -1000000000000000' */
    private static void noDialIsBelowTheLeast() {
        String[] sums = {"FINE 1 0 1", "WIDE 1 0 1", "ROUGH 1 0 1"};
        for (String sum : sums) {
            desk(sum + " far below").turn(0, -1e15).turn(1, 1e15).steps(sum).run(8).dial(0, -1e15);
        }
        desk("the least").turn(0, 0.125 - 1e15).turn(1, 0.125).steps("FINE 1 0 1").run(0).dial(0, -1e15);
        desk("right below").turn(0, -1e15).turn(1, 0.125).steps("FINE 1 0 1").run(8).dial(0, -1e15);
        desk("the least of WIDE").turn(0, 1 - 1e15).turn(1, 1).steps("WIDE 1 0 1").run(0).dial(0, -1e15);
        desk("right below by WIDE").turn(0, -1e15).turn(1, 1).steps("WIDE 1 0 1").run(8).dial(0, -1e15);
        desk("right below by ROUGH").turn(0, -1e15).turn(1, 67108864).steps("ROUGH 1 0 1").run(8).dial(0, -1e15);
    }

    /** 'row w is of kind w / 2' */
    private static void everyRowIsOfItsKind() {
        double[] held = {1, 64, 40000, -25536, 40000, 40000, (float) 40000.3, 40000.3, 40000.3};
        double[] largeHeld = {1, -1, 65535, -1, 2147483647, 3000000000.0, 3000000000.0, 3000000000.5, 3000000000.5};
        for (int w = 0; w < 18; w++) {
            put(w, 40000.3, held[w / 2]);
            put(w, 3000000000.5, largeHeld[w / 2]);
        }
    }

    /** Puts the number into the last of two places, and gets it from there. */
    private static void put(int w, double number, double due) {
        Desk desk = desk(number + " in row " + w).turn(1, number).steps("SET 0 16").add(Desk.MAKE, w, 0).steps("SET 0 8");
        if (w >= 16) {
            desk.add(Desk.FIT, w, 0);
        }
        desk.add(Desk.PUT, w, 0, 1).add(Desk.GET, w, 0, 2).run(0).dial(2, due).value(w, 1, due).value(w, 0, 0)
            .dial(1, number);
    }

    /** Both rows of a kind; the numbers that are put, each with what is got then. */
    private static void puts(int kind, double... numbers) {
        for (int i = 0; i < numbers.length; i += 2) {
            put(2 * kind, numbers[i], numbers[i + 1]);
            put(2 * kind + 1, numbers[i], numbers[i + 1]);
        }
    }

    /** 'A row is MISSING, as at first' */
    private static void rowsAreMissingAtFirst() {
        for (int w = 0; w < 18; w++) {
            desk("row " + w + " at first").size(w, -1).add(Desk.COUNT, w, 0).run(3).size(w, -1);
        }
    }

    /** 'or has 0 .. PLACES' */
    private static void rowsOfNoPlaces() {
        for (int w = 0; w < 18; w++) {
            desk("row " + w + " of no places").add(Desk.MAKE, w, 0).add(Desk.COUNT, w, 1).run(0).size(w, 0).dial(1, 0)
                .clear().add(Desk.GET, w, 0, 1).run(4).value(w, 0, 0);
        }
    }

    /** 'to 16 PLACES, from 0' */
    private static void rowsOfSixteenPlaces() {
        for (int w = 0; w < 18; w++) {
            Desk desk = desk("row " + w + " of 16 places").steps("SET 0 128, SET 1 120, SET 2 0, SET 3 8")
                .add(Desk.MAKE, w, 0).add(Desk.COUNT, w, 4);
            if (w >= 16) {
                desk.add(Desk.FIT, w, 1).add(Desk.FIT, w, 2);
            }
            desk.add(Desk.PUT, w, 1, 3).add(Desk.PUT, w, 2, 3).run(0).size(w, 16).dial(4, 16).value(w, 15, 1)
                .value(w, 0, 1).value(w, 1, 0).value(w, 14, 0).value(w, 16, 0);
            desk.clear().add(Desk.PUT, w, 0, 3).run(4).clear().add(Desk.GET, w, 0, 3).run(4).value(w, 16, 0);
            // The place right behind the last is none of the next row either.
            desk.value(w + 1, 0, 0);
        }
    }

    /** 'ROWS are 0 .. 17', each with places of its own. */
    private static void rowsAreApart() {
        Desk desk = desk("all rows").steps("SET 0 128, SET 1 8, SET 2 120");
        for (int w = 0; w < 18; w++) {
            desk.add(Desk.MAKE, w, 0);
        }
        desk.steps("FIT 16 7, FIT 17 2").run(0);
        for (int w = 0; w < 18; w++) {
            // The first place of even rows, the last one of odd rows.
            desk.clear().add(Desk.PUT, w, w % 2 == 0 ? 7 : 2, 1).run(0);
        }
        for (int w = 0; w < 18; w++) {
            desk.value(w, 0, 1 - w % 2).value(w, 15, w % 2).value(w, 1, 0).value(w, 14, 0).size(w, 16);
        }
    }

    /** 'A place holds a number ..., 0 (false) at first' */
    private static void placesAreZeroAtFirst() {
        for (int w = 0; w < 16; w++) {
            Desk desk = desk("places of " + w + " at first").steps("SET 0 128, SET 1 120, SET 2 8, SET 3 8")
                .add(Desk.MAKE, w, 0).add(Desk.GET, w, 1, 2).add(Desk.GET, w, 4, 3).run(0).dial(2, 0).dial(3, 0);
            for (int i = 0; i < 16; i++) {
                desk.value(w, i, 0);
            }
        }
    }

    /** 'a place of PROBES holds a PROBE, which has a double, or NONE, as at first' */
    private static void probesAreNoneAtFirst() {
        for (int w = 16; w < 18; w++) {
            Desk desk = desk("probes of " + w + " at first").steps("SET 0 128, SET 1 120").add(Desk.MAKE, w, 0).run(0);
            for (int i = 0; i < 16; i++) {
                desk.fitted(w, i, false).value(w, i, 0);
            }
            desk.clear().add(Desk.GET, w, 2, 3).run(3).clear().add(Desk.GET, w, 1, 3).run(3)
                .clear().add(Desk.PUT, w, 2, 3).run(3).clear().add(Desk.PUT, w, 1, 3).run(3).fitted(w, 15, false);
        }
    }

    /** 'FLAGS: true if it is not 0' */
    private static void flags() {
        puts(0, 0, 0, -0.0, 0, 1, 1, -1, 1, 0.125, 1, -0.875, 1, Double.MIN_VALUE, 1, -Double.MIN_VALUE, 1, 256, 1,
            4294967296.0, 1, 1e15, 1, -1e15, 1);
    }

    /** 'BYTES ..: cast to int, then to byte', by way of the greatest and the least int. */
    private static void bytes() {
        puts(1, 127, 127, 127.875, 127, 128, -128, -128, -128, -128.875, -128, -129, 127, 255, -1, 256, 0, -0.875, 0,
            -0.0, 0, 2147483647, -1, 2147483648.0, -1, 4294967297.0, -1, 1e15, -1, -2147483648.0, 0, -4294967297.0, 0,
            -1e15, 0);
    }

    /** 'CHARS ..: .. to char' */
    private static void chars() {
        puts(2, 65535, 65535, 65535.875, 65535, 65536, 0, -1, 65535, -0.875, 0, -0.0, 0, -65535, 1, 32768, 32768,
            1e15, 65535, 4294967297.0, 65535, -1e15, 0);
    }

    /** 'SHORTS: .. to .. short' */
    private static void shorts() {
        puts(3, 32767, 32767, 32767.875, 32767, 32768, -32768, -32768, -32768, -32768.875, -32768, -32769, 32767,
            65536, 0, -0.875, 0, -0.0, 0, 1e15, -1, 4294967297.0, -1, -1e15, 0);
    }

    /** 'INTS ..: cast to int', 'cut off toward 0 and stay at the least or the greatest int' */
    private static void ints() {
        puts(4, 1.875, 1, -1.875, -1, -0.875, 0, -0.0, 0, 2147483646.5, 2147483646, 2147483647, 2147483647,
            2147483647.5, 2147483647, 2147483648.0, 2147483647, 4294967296.0, 2147483647, 1e15, 2147483647,
            -2147483647.5, -2147483647, -2147483648.0, -2147483648.0, -2147483648.5, -2147483648.0,
            -2147483649.0, -2147483648.0, -4294967296.0, -2147483648.0, -1e15, -2147483648.0);
    }

    /** 'LONGS ..: cast to .. long'; no dial is beyond a long. */
    private static void longs() {
        puts(5, 1.875, 1, -1.875, -1, -0.875, 0, -0.0, 0, 2147483648.0, 2147483648.0, -4294967297.5, -4294967297.0,
            1e15, 1e15, -1e15, -1e15, 1e15 - 0.125, 999999999999999.0, 0.125 - 1e15, -999999999999999.0,
            562949953421311.9, 562949953421311.0);
    }

    /** 'FLOATS: cast to .. float' */
    private static void floats() {
        puts(6, 0.125, 0.125, 0.1, 0.10000000149011612, -0.0, -0.0, 16777217, 16777216, 16777219, 16777220,
            1e15, 999999986991104.0, -1e15, -999999986991104.0, 1e-60, 0, -1e-60, -0.0,
            Float.MIN_VALUE, Float.MIN_VALUE, Float.MIN_VALUE / 2, 0);
    }

    /** 'DOUBLES, and a PROBE: as it is' */
    private static void doublesAndProbesAsTheyAre() {
        for (int kind = 7; kind <= 8; kind++) {
            for (double number : new double[] {0.1, -0.0, 0.0, 1e15, -1e15, Double.MIN_VALUE, -1e-60, 16777217}) {
                puts(kind, number, number);
            }
        }
    }

    /** 'A dial's INT is its double cast to int' */
    private static void theIntOfADialIsCutOff() {
        desk("places that are cut off").steps("SET 0 135, MAKE 8 0").run(0).size(8, 16)
            .clear().steps("SET 0 7, MAKE 8 0").run(0).size(8, 0)
            .clear().steps("SET 0 -7, MAKE 9 0").run(0).size(9, 0);
        Desk desk = desk("a place that is cut off").steps("SET 0 16, MAKE 14 0, MAKE 16 0, SET 1 15, SET 2 -7")
            .steps("SET 3 24, SET 4 32, PUT 14 1 3, PUT 14 2 4, FIT 16 1, FIT 16 2, PUT 16 1 3, PUT 16 2 4").run(0)
            .value(14, 1, 3).value(14, 0, 4).value(16, 1, 3).value(16, 0, 4);
        desk.clear().steps("GET 14 1 5, NOTE 5, GET 14 2 5, NOTE 5, GET 16 1 5, NOTE 5, GET 16 2 5, NOTE 5").run(0)
            .logs(3, 4, 3, 4);
    }

    /** 'stay at the least or the greatest int'; cut to 32 bits these would be 0 or 1. */
    private static void theIntOfADialStaysAtItsEnds() {
        for (double number : new double[] {4294967296.0, 4294967297.0, 4294967296.0 * 65536, 2147483648.0, 1e15}) {
            desk("MAKE of " + number).turn(1, number).steps("MAKE 8 1").run(8).size(8, -1);
            desk("MAKE of -" + number).turn(1, -number).steps("MAKE 8 1").run(5).size(8, -1);
            for (double place : new double[] {number, -number}) {
                Desk desk = desk("place " + place).turn(1, place).steps("SET 0 16, MAKE 8 0, MAKE 16 0, SET 2 8").run(0);
                desk.clear().steps("GET 8 1 2").run(4).clear().steps("PUT 8 1 2").run(4).clear().steps("FIT 16 1").run(4)
                    .dial(2, 1).value(8, 0, 0).value(8, 1, 0).fitted(16, 0, false).fitted(16, 1, false);
            }
        }
    }
}
