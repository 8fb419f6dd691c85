/** 'Terms', faults: a test for each sentence that names an edge. */
public final class FaultsEdgesTest {
    private static final Check CHECK = new Check("edges of faults");

    /** Each kind that faults are of, with steps that throw it last, and the weight that it has alone. */
    private static final int[] KINDS = {3, 4, 5, 7, 8, 9, 10};
    private static final String[] THROWING = {
        "COUNT 0 0", "MAKE 0 7, GET 0 7 1", "SET 1 -8, MAKE 0 1", "WHOLE 3 0 7", "SET 1 136, MAKE 0 1", "THROW 20", "CALL 3"};
    private static final int[] WEIGHTS = {11, 1, 3, 101, 106, 21, 1};

    public static void main(String[] args) {
        eachKindIsUnderItself();
        rowFaults();
        numberFaults();
        own();
        allAreUnderFault();
        theFirstPlace();
        theLastPlace();
        thePlaceOfTheStepThatThrewFirst();
        onlyOwnAndWrappedHaveANumber();
        numbersFromEndToEnd();
        noEarlierOne();
        oneEarlierOne();
        fiveEarlierOnes();
        weightsAlone();
        weightsOfWrapped();
        theGreatestWeight();
        theLeastWeightOfWrapped();
        CHECK.end();
    }

    private static Desk desk(String name) {
        return new Desk(CHECK, name);
    }

    /** A desk whose routine 3 has an open block, so that CALL 3 throws TIRED. */
    private static Desk withOpenRoutine(String name) {
        return desk(name).choose(3).steps("LOOP 1").choose(0);
    }

    private static void under(int i, int kind, boolean isUnder) {
        withOpenRoutine(KINDS[i] + " under " + kind).steps("TRY").steps(THROWING[i]).add(Desk.CATCH, kind)
            .steps("NOTE 5, END").run(isUnder ? 0 : KINDS[i]).count(3, isUnder ? 1 : 0).count(4, isUnder ? 1 : 0);
    }

    private static void wrappedUnder(int kind, boolean isUnder) {
        desk("11 under " + kind).steps("TRY, TRY, THROW 1, CATCH 9, WRAP 1, END").add(Desk.CATCH, kind)
            .steps("NOTE 5, END").run(isUnder ? 0 : 11).count(3, isUnder ? 1 : 0).count(4, isUnder ? 2 : 1);
    }

    /** 'each kind is UNDER itself', and under no other at its side or below it. */
    private static void eachKindIsUnderItself() {
        for (int i = 0; i < KINDS.length; i++) {
            for (int kind : new int[] {3, 4, 5, 7, 8, 10, 11}) {
                under(i, kind, kind == KINDS[i]);
            }
        }
        for (int kind : new int[] {3, 4, 5, 7, 8, 10, 11}) {
            wrappedUnder(kind, kind == 11);
        }
    }

    /** '3 MISSING, 4 PLACE, 5 SIZE, each below ROW FAULT' */
    private static void rowFaults() {
        for (int i = 0; i < KINDS.length; i++) {
            under(i, 2, KINDS[i] == 3 || KINDS[i] == 4 || KINDS[i] == 5);
        }
        wrappedUnder(2, false);
    }

    /** '7 ZERO, 8 RANGE, each below NUMBER FAULT' */
    private static void numberFaults() {
        for (int i = 0; i < KINDS.length; i++) {
            under(i, 6, KINDS[i] == 7 || KINDS[i] == 8);
        }
        wrappedUnder(6, false);
    }

    /** '(So what is UNDER 9 is 9 and 11.)' */
    private static void own() {
        for (int i = 0; i < KINDS.length; i++) {
            under(i, 9, KINDS[i] == 9);
        }
        wrappedUnder(9, true);
    }

    /** '2 ROW FAULT, below FAULT; 6 NUMBER FAULT, below FAULT; 9 OWN, 10 TIRED, below FAULT' */
    private static void allAreUnderFault() {
        for (int i = 0; i < KINDS.length; i++) {
            under(i, 1, true);
        }
        wrappedUnder(1, true);
    }

    /** 'Each has a PLACE: 40 times the routine and the number of the step': the first that there is. */
    private static void theFirstPlace() {
        desk("the first place").steps("THROW 1").run(9).faults(9, 0, 2, 1, 0, 0);
    }

    /** The last PLACE that there is. */
    private static void theLastPlace() {
        desk("the last place").choose(3).steps(39, "NOTE 0").steps("THROW 1").run(9).faults(9, 159, 2, 1, 0, 159);
        for (int r = 0; r < 4; r++) {
            desk("a place of routine " + r).choose(r).steps("NOTE 0, THROW 1").run(9).fault(1, 40 * r + 1);
        }
    }

    /** 'the step that threw it first': neither AGAIN nor CALL changes it. */
    private static void thePlaceOfTheStepThatThrewFirst() {
        desk("AGAIN").steps("TRY, TRY, NOTE 0, THROW 1, CATCH 1, NOTE 0, AGAIN, END, CATCH 1, AGAIN, END").run(9)
            .faults(9, 3, 2, 1, 0, 3);
        desk("CALL").choose(2).steps("NOTE 0, THROW 1").choose(1).steps("CALL 2").choose(0).steps("NOTE 0, CALL 1").run(9)
            .faults(9, 81, 2, 1, 0, 81);
        desk("WRAP is a step that throws").steps("TRY, THROW 1, CATCH 1, NOTE 0, WRAP 1, END").run(11).fault(1, 4);
    }

    /** 'OWN and WRAPPED have a NUMBER'; of the others fault(3) is 0. */
    private static void onlyOwnAndWrappedHaveANumber() {
        for (int i = 0; i < KINDS.length; i++) {
            withOpenRoutine("number of " + KINDS[i]).steps(THROWING[i]).run(KINDS[i]).fault(3, KINDS[i] == 9 ? 20 : 0);
            withOpenRoutine("number of wrapped " + KINDS[i]).steps("TRY").steps(THROWING[i]).steps("CATCH 1, WRAP 30, END")
                .run(11).fault(3, 30);
        }
    }

    /** 'THROW a (0 .. 99)', 'WRAP a (0 .. 99)' */
    private static void numbersFromEndToEnd() {
        desk("THROW 0").steps("THROW 0").run(9).faults(9, 0, 1, 0, 0, 0);
        desk("THROW 99").steps("THROW 99").run(9).faults(9, 0, 100, 99, 0, 0);
        desk("WRAP 0").steps("TRY, THROW 0, CATCH 1, WRAP 0, END").run(11).faults(11, 3, 4, 0, 1, 1);
        desk("WRAP 99").steps("TRY, THROW 99, CATCH 1, WRAP 99, END").run(11).faults(11, 3, 400, 99, 1, 1);
    }

    /** Of a fault without an EARLIER one: none, and its own PLACE. */
    private static void noEarlierOne() {
        for (int i = 0; i < KINDS.length; i++) {
            int place = THROWING[i].split(",").length;
            withOpenRoutine("earlier ones of " + KINDS[i]).steps("NOTE 0").steps(THROWING[i]).run(KINDS[i])
                .fault(4, 0).fault(1, place).fault(5, place);
        }
    }

    /** 'a WRAPPED has one EARLIER fault' */
    private static void oneEarlierOne() {
        for (int i = 0; i < KINDS.length; i++) {
            int place = THROWING[i].split(",").length;
            withOpenRoutine("wrapped " + KINDS[i]).steps("TRY").steps(THROWING[i]).steps("CATCH 1, WRAP 3, END").run(11)
                .faults(11, place + 2, 2 * (1 + WEIGHTS[i] + 3), 3, 1, place);
        }
    }

    /** '(its own EARLIER one is one, too, and so on: the fault's EARLIER ones)' */
    private static void fiveEarlierOnes() {
        int[] weights = {8, 2 * (1 + 8 + 1), 2 * (1 + 20 + 2), 2 * (1 + 46 + 3), 2 * (1 + 100 + 4), 2 * (1 + 210 + 5)};
        for (int wraps = 1; wraps <= 5; wraps++) {
            wrapped(desk(wraps + " earlier ones"), "THROW 7", wraps).run(11)
                .faults(11, 4 * wraps - 1, weights[wraps], wraps, wraps, wraps);
        }
    }

    /** So many TRYs, one in the other, around a step; then for each WRAP 1, WRAP 2 and so on. */
    private static Desk wrapped(Desk desk, String step, int wraps) {
        desk.steps(wraps, "TRY").steps(step);
        for (int i = 1; i <= wraps; i++) {
            desk.steps("CATCH 1").add(Desk.WRAP, i).steps("END");
        }
        return desk;
    }

    /** 'the plain weight of a fault is 1'; what each kind makes of it. */
    private static void weightsAlone() {
        for (int i = 0; i < KINDS.length; i++) {
            withOpenRoutine("weight of " + KINDS[i]).steps(THROWING[i]).run(KINDS[i]).fault(2, WEIGHTS[i]);
        }
    }

    /** 'and, if it has an EARLIER one, that one's WEIGHT', 'twice what the plain weight and its NUMBER are together' */
    private static void weightsOfWrapped() {
        for (int i = 0; i < KINDS.length; i++) {
            withOpenRoutine("weight of wrapped " + KINDS[i]).steps("TRY, TRY").steps(THROWING[i])
                .steps("CATCH 1, WRAP 5, END, CATCH 11, TELL, WRAP 40, END").run(11)
                .log(2, 2 * (1 + WEIGHTS[i] + 5)).fault(2, 2 * (1 + 2 * (1 + WEIGHTS[i] + 5) + 40));
        }
    }

    /** 'an int that wraps': no run comes that far, this is the greatest that there can be. */
    private static void theGreatestWeight() {
        desk("the greatest weight").steps("SET 1 136").steps(5, "TRY").steps("MAKE 0 1").steps(5, "CATCH 1, WRAP 99, END")
            .run(11).faults(11, 20, 9592, 99, 5, 6);
    }

    private static void theLeastWeightOfWrapped() {
        desk("the least weight").steps("TRY, TRY, MAKE 0 7, GET 0 7 1, CATCH 4, WRAP 0, END, CATCH 11, TELL, AGAIN, END")
            .run(11).faults(11, 5, 4, 0, 1, 3).logs(11, 5, 4, 1);
    }
}
