/** Promises 1 to 13: a test for each sentence that names an edge, a wrong input or a refused call. */
public final class CallsEdgesTest {
    private static final Check CHECK = new Check("edges of calls");
    private static final int LEAST = Integer.MIN_VALUE;
    private static final int MOST = Integer.MAX_VALUE;

    public static void main(String[] args) {
        aNewObject();
        aNewObjectHasRoutineZeroAtHand();
        objectsAreApart();
        theLastCall();
        chooseOfNoneSuch();
        chooseTellsTheSteps();
        stepOfNoSuchWhat();
        stepOfNoSuchArgument();
        stepDoesNotLookAtOthers();
        stepEndWithoutABlock();
        stepPartsOutsideOfATry();
        stepPartsBehindFinally();
        stepAFourthCatch();
        stepLeaveWithoutALoop();
        stepLeaveWithinFinally();
        stepReturnWithinFinally();
        stepsOfCatchPartsOutsideOfThem();
        stepASeventhBlock();
        stepAFortyFirst();
        stepsAreRefusedInTheirOrder();
        stepThatIsRefusedDoesNothing();
        stepOfEachRoutineAlone();
        clearOfNoSteps();
        clearOfOpenBlocks();
        clearLeavesTheRest();
        runOfNoSteps();
        runOfOpenBlocks();
        runDoesNothingThen();
        runTellsTheKind();
        dialOfNoneSuch();
        sizeOfMissingAndNoneSuch();
        valueOfNoneSuch();
        valueOfNone();
        isFittedOfNoneSuch();
        logOfNoneSuch();
        isMinusOfMinusZero();
        isMinusOfNoneSuch();
        countOfNoSuchWhat();
        countWithoutARun();
        countOfTheLatestRun();
        countOfOpenBlocks();
        faultOfNoSuchWhat();
        faultWithoutARun();
        faultOfARunThatWasOver();
        faultOfTheLatestRun();
        CHECK.end();
    }

    private static Desk desk(String name) {
        return new Desk(CHECK, name);
    }

    /** Promise 1: 'Empty routines', 'dials 0, all rows MISSING; an empty LOG, no run' */
    private static void aNewObject() {
        Desk desk = desk("a new object").counts(0, 0, 0, 0, 0, 0).noFault().logs();
        for (int d = 0; d < 8; d++) {
            desk.dial(d, 0);
        }
        for (int w = 0; w < 18; w++) {
            desk.size(w, -1).value(w, 0, 0).fitted(w, 0, false);
        }
        for (int r = 0; r < 4; r++) {
            desk.choose(r).counts(0, 0).run(0).clear();
        }
    }

    /** Promise 1: 'routine 0 at hand' */
    private static void aNewObjectHasRoutineZeroAtHand() {
        desk("routine 0 at hand").steps("NOTE 0, THROW 1").run(9).fault(1, 1).choose(1).counts(0).choose(0).counts(2);
    }

    /** What is done with one object does not show in another. */
    private static void objectsAreApart() {
        Desk one = desk("one object").steps("SET 0 8, MAKE 0 0, NOTE 0, THROW 1").run(9);
        desk("another object").counts(0, 0, 0, 0, 0, 0).dial(0, 0).size(0, -1).noFault();
        one.counts(4, 0, 4, 1, 0, 0).dial(0, 1).size(0, 1).faults(9, 3);
    }

    /** 'An object is used for at most 512 calls': the last of them answers as the first ones do. */
    private static void theLastCall() {
        Desk desk = desk("512 calls").steps("SET 1 8, LOOP 6, TRY, TRY, THROW 1, CATCH 9, WRAP 2, FINALLY, FINE 0 0 1, END")
            .steps("CATCH 11, TELL, END, END");
        for (int call = 15; call < 512; call++) {
            desk.run(0);
        }
        desk.dial(0, 6 * 497);
    }

    /** Promise 2: '-1, and nothing is done: there is none such' */
    private static void chooseOfNoneSuch() {
        for (int wrong : new int[] {-1, 4, 5, LEAST, MOST}) {
            desk("choose " + wrong).choose(2).steps("NOTE 0, THROW 1").choose(wrong).counts(2, 0).run(9).fault(1, 81);
        }
    }

    /** Promise 2: 'how many steps it has' */
    private static void chooseTellsTheSteps() {
        Desk desk = desk("choose").steps(40, "NOTE 0").choose(3).steps("TRY").choose(0).choose(1).choose(3).choose(2);
        desk.choose(0).run(0).choose(0).clear().choose(0).choose(3).count(1, 1);
    }

    /** Promise 3: '-1: what is not 0 .. 24' */
    private static void stepOfNoSuchWhat() {
        for (int what : new int[] {-1, 25, 26, LEAST, MOST}) {
            desk("what " + what).refuse(-1, what, 0, 0, 0);
        }
        Desk desk = desk("each what").steps("TRY, CATCH 1, LOOP 0");
        for (int what = 4; what <= 24; what++) {
            desk.add(what, what == Desk.FIT ? 16 : 0, 0, 0);
        }
        desk.steps("END, END, END, FINALLY, END");
    }

    /** Promise 3: 'or a number, kind, dial, row, routine among its arguments is none that is told' */
    private static void stepOfNoSuchArgument() {
        ends("CATCH", 1, 11);
        ends("LOOP", 0, 6);
        ends("THROW", 0, 99);
        ends("WRAP", 0, 99);
        ends("IF", 0, 7, 0, 3, 0, 7);
        ends("CALL", 0, 3);
        ends("MAKE", 0, 17, 0, 7);
        ends("DROP", 0, 17);
        ends("COUNT", 0, 17, 0, 7);
        ends("GET", 0, 17, 0, 7, 0, 7);
        ends("PUT", 0, 17, 0, 7, 0, 7);
        ends("FIT", 16, 17, 0, 7);
        ends("SET", 0, 7, LEAST, MOST);
        ends("FINE", 0, 13, 0, 7, 0, 7);
        ends("ROUGH", 0, 13, 0, 7, 0, 7);
        ends("WHOLE", 0, 7, 0, 7, 0, 7);
        ends("WIDE", 0, 7, 0, 7, 0, 7);
        ends("NOTE", 0, 7);
    }

    /** For each argument its least and its most: these are taken, and those right beyond are refused. */
    private static void ends(String step, int... bounds) {
        int[] least = new int[bounds.length / 2];
        for (int i = 0; i < least.length; i++) {
            least[i] = bounds[2 * i];
        }
        for (int i = 0; i < least.length; i++) {
            Desk desk = desk("argument " + i + " of " + step).steps("TRY, CATCH 1");
            for (int right : new int[] {bounds[2 * i], bounds[2 * i + 1]}) {
                desk.steps(written(step, least, i, right));
            }
            int[] beyond = {bounds[2 * i] - 1, bounds[2 * i + 1] + 1, LEAST, MOST};
            for (int j = 0; j < 4 && bounds[2 * i] != LEAST; j++) {
                desk.refuses(-1, written(step, least, i, beyond[j]));
            }
        }
    }

    private static String written(String step, int[] arguments, int which, int argument) {
        StringBuilder text = new StringBuilder(step);
        for (int i = 0; i < arguments.length; i++) {
            text.append(' ').append(i == which ? argument : arguments[i]);
        }
        return text.toString();
    }

    /** 'those that are not named are not looked at'; Desk gives wild ones. */
    private static void stepDoesNotLookAtOthers() {
        desk("others").steps("TRY, THROW 1, RETURN, LOOP 1, LEAVE, END, CATCH 1, AGAIN, WRAP 1, TELL, FINALLY, END")
            .steps("CALL 0, MAKE 0 0, DROP 0, COUNT 0 0, FIT 16 0, SET 0 0, NOTE 0").count(0, 19);
    }

    /** '-2: END where no block is open' */
    private static void stepEndWithoutABlock() {
        desk("END of no steps").refuses(-2, "END");
        desk("END behind steps").steps("NOTE 0").refuses(-2, "END");
        for (String block : new String[] {"TRY", "LOOP 0", "IF 0 0 0"}) {
            desk("END behind " + block).steps(block).steps("END").refuses(-2, "END");
        }
        desk("END behind six").steps(6, "TRY").steps(6, "END").refuses(-2, "END");
    }

    /** 'CATCH, FINALLY where the block that was opened last (and is open) is no TRY' */
    private static void stepPartsOutsideOfATry() {
        String parts = "CATCH 1, FINALLY";
        desk("parts without a block").refuses(-2, parts).steps("NOTE 0").refuses(-2, parts);
        desk("parts of a LOOP").steps("LOOP 1").refuses(-2, parts).steps("END").refuses(-2, parts);
        desk("parts of an IF").steps("IF 0 0 0").refuses(-2, parts).steps("END").refuses(-2, parts);
        desk("parts of a LOOP in a TRY").steps("TRY, LOOP 1").refuses(-2, parts).steps("END, CATCH 1, FINALLY");
        desk("parts of an IF in a TRY").steps("TRY, IF 0 0 0").refuses(-2, parts).steps("END, CATCH 1, FINALLY");
        desk("parts behind a TRY").steps("TRY, END").refuses(-2, parts);
        desk("parts behind a TRY in a LOOP").steps("LOOP 1, TRY, END").refuses(-2, parts);
        desk("parts of a TRY in a LOOP").steps("LOOP 1, TRY, CATCH 1, FINALLY, END");
    }

    /** 'or has its FINALLY' */
    private static void stepPartsBehindFinally() {
        String parts = "CATCH 1, FINALLY";
        desk("parts behind FINALLY").steps("TRY, FINALLY").refuses(-2, parts).steps("NOTE 0").refuses(-2, parts);
        desk("parts behind CATCH and FINALLY").steps("TRY, CATCH 1, FINALLY").refuses(-2, parts);
        desk("parts of a TRY in FINALLY").steps("TRY, FINALLY, TRY, CATCH 1, FINALLY").refuses(-2, parts).steps("END")
            .refuses(-2, parts).steps("END");
        desk("parts of the next TRY").steps("TRY, FINALLY, END, TRY, CATCH 1, FINALLY");
        desk("parts of a TRY whose inner one has its FINALLY").steps("TRY, TRY, FINALLY, END, CATCH 1, FINALLY");
    }

    /** 'CATCH where it has three' */
    private static void stepAFourthCatch() {
        desk("a fourth CATCH").steps("TRY, CATCH 1, CATCH 1, CATCH 1").refuses(-2, "CATCH 1").steps("NOTE 0")
            .refuses(-2, "CATCH 1").steps("FINALLY").refuses(-2, "CATCH 1").steps("END, TRY, CATCH 1, CATCH 1, CATCH 1")
            .refuses(-2, "CATCH 1");
        desk("three of the inner one").steps("TRY, TRY, CATCH 1, CATCH 1, CATCH 1, END, CATCH 1, CATCH 1, CATCH 1")
            .refuses(-2, "CATCH 1");
        desk("three of the outer one").steps("TRY, CATCH 1, CATCH 1, CATCH 1, TRY, CATCH 1, CATCH 1, CATCH 1")
            .refuses(-2, "CATCH 1").steps("END").refuses(-2, "CATCH 1");
    }

    /** 'LEAVE where no LOOP is open' */
    private static void stepLeaveWithoutALoop() {
        desk("LEAVE of no steps").refuses(-2, "LEAVE").steps("TRY").refuses(-2, "LEAVE").steps("IF 0 0 0").refuses(-2, "LEAVE");
        desk("LEAVE behind a LOOP").steps("LOOP 1, END").refuses(-2, "LEAVE").steps("TRY").refuses(-2, "LEAVE");
        desk("LEAVE in a LOOP").steps("LOOP 0, LEAVE, IF 0 0 0, LEAVE, TRY, LEAVE, CATCH 1, LEAVE, END, END, LEAVE");
    }

    /** 'or a FINALLY part is open within the innermost one that is' */
    private static void stepLeaveWithinFinally() {
        desk("LEAVE in FINALLY").steps("LOOP 1, TRY, FINALLY").refuses(-2, "LEAVE").steps("IF 0 0 0").refuses(-2, "LEAVE")
            .steps("END, TRY").refuses(-2, "LEAVE").steps("CATCH 1").refuses(-2, "LEAVE").steps("END, END, LEAVE");
        desk("LEAVE of a LOOP in FINALLY").steps("LOOP 1, TRY, FINALLY, LOOP 1, LEAVE, TRY, LEAVE, FINALLY")
            .refuses(-2, "LEAVE").steps("END, LEAVE, END").refuses(-2, "LEAVE");
        desk("LEAVE in FINALLY without a LOOP").steps("TRY, FINALLY").refuses(-2, "LEAVE");
        desk("LEAVE around a LOOP in FINALLY").steps("TRY, FINALLY, LOOP 1, LEAVE, END").refuses(-2, "LEAVE");
    }

    /** 'RETURN where a FINALLY part is open' */
    private static void stepReturnWithinFinally() {
        desk("RETURN in FINALLY").steps("RETURN, TRY, RETURN, CATCH 1, RETURN, FINALLY").refuses(-2, "RETURN")
            .steps("LOOP 1").refuses(-2, "RETURN").steps("TRY").refuses(-2, "RETURN").steps("CATCH 1").refuses(-2, "RETURN")
            .steps("END, IF 0 0 0").refuses(-2, "RETURN").steps("END, END").refuses(-2, "RETURN").steps("END, RETURN");
    }

    /** 'AGAIN, WRAP, TELL where no CATCH part is open', from CATCH 'to the next CATCH, FINALLY or the END of its TRY' */
    private static void stepsOfCatchPartsOutsideOfThem() {
        for (String step : new String[] {"AGAIN", "WRAP 0", "TELL"}) {
            desk(step).refuses(-2, step).steps("TRY").refuses(-2, step).steps("CATCH 1").steps(step).steps("CATCH 1")
                .steps(step).steps("FINALLY").refuses(-2, step).steps("END").refuses(-2, step);
            desk(step + " behind CATCH").steps("TRY, CATCH 1, END").refuses(-2, step).steps("LOOP 1").refuses(-2, step);
            desk(step + " in blocks of CATCH").steps("TRY, CATCH 1, LOOP 1").steps(step).steps("IF 0 0 0").steps(step)
                .steps("TRY").steps(step).steps("FINALLY").steps(step).steps("END, END, END").steps(step);
            desk(step + " in FINALLY").steps("TRY, CATCH 1, FINALLY, TRY").refuses(-2, step).steps("CATCH 1").steps(step)
                .steps("END").refuses(-2, step);
        }
    }

    /** 'a block where 6 are open' */
    private static void stepASeventhBlock() {
        String blocks = "TRY, LOOP 1, IF 0 0 0";
        desk("a seventh block").steps(2, blocks).counts(6, 6).refuses(-2, blocks).steps("NOTE 0").refuses(-2, blocks)
            .steps("END, TRY").refuses(-2, blocks).steps("CATCH 1").refuses(-2, blocks).steps("FINALLY").refuses(-2, blocks)
            .steps("END, END, TRY, LOOP 0").refuses(-2, blocks);
        desk("a seventh that was closed").steps(6, "TRY, END").steps("TRY").counts(13, 1);
    }

    /** '-3: there are 40' */
    private static void stepAFortyFirst() {
        desk("a 41st step").steps(40, "NOTE 0").refuses(-3, "NOTE 0, TRY, LOOP 0, IF 0 0 0, RETURN, THROW 0, CALL 0, SET 0 0")
            .run(0).count(3, 40);
        desk("a 41st END").steps(39, "NOTE 0").steps("TRY").refuses(-3, "END, CATCH 1, FINALLY, NOTE 0").run(-1).clear()
            .steps("NOTE 0");
        desk("the 40th END").steps("TRY").steps(38, "NOTE 0").steps("END").run(0).count(2, 39);
    }

    /** '-1 ..; else -2 ..; else -3' */
    private static void stepsAreRefusedInTheirOrder() {
        desk("-1 before -2").refuses(-1, "CATCH 0, CATCH 12, WRAP 100, WRAP -1").refuses(-2, "CATCH 1, WRAP 99")
            .steps(6, "TRY").refuses(-1, "LOOP 7, IF 8 0 0, IF 0 4 0").refuses(-2, "LOOP 6, IF 7 3 7");
        desk("-1 and -2 before -3").steps(40, "NOTE 0").refuse(-1, 25).refuse(-1, -1)
            .refuses(-1, "NOTE 8, CATCH 0, LOOP 7, FIT 15 0").refuses(-2, "END, CATCH 1, FINALLY, LEAVE, AGAIN, WRAP 0, TELL")
            .refuses(-3, "NOTE 7, LOOP 6, RETURN");
        desk("-2 of blocks before -3").steps(34, "NOTE 0").steps(6, "TRY").refuses(-2, "TRY, LOOP 0, LEAVE")
            .refuses(-3, "END, NOTE 0, CATCH 1");
        desk("-2 of RETURN before -3").steps(38, "NOTE 0").steps("TRY, FINALLY").refuses(-2, "RETURN, CATCH 1, FINALLY")
            .refuses(-3, "TRY, END");
    }

    /** '(Nothing is done then.' */
    private static void stepThatIsRefusedDoesNothing() {
        desk("refused").steps("SET 1 8, TRY, THROW 1, CATCH 9, CATCH 2, CATCH 3").refuses(-2, "CATCH 1, LEAVE")
            .refuses(-1, "NOTE 8, CATCH 0").steps("FINALLY").refuses(-2, "FINALLY, CATCH 1, RETURN, TELL").steps("NOTE 1, END")
            .refuses(-2, "END").steps("NOTE 0").run(0).logs(1, 0).counts(10, 0, 5, 2, 1, 1);
        desk("refused at 40").steps("TRY").steps(37, "NOTE 0").steps("FINALLY, END").refuses(-3, "THROW 1, TRY").run(0)
            .counts(40, 0, 38, 37, 0, 1);
    }

    /** 'the routine at hand' alone has one more step. */
    private static void stepOfEachRoutineAlone() {
        desk("routines apart").choose(1).steps("TRY, CATCH 1").choose(2).refuses(-2, "END, TELL").steps("LOOP 1").choose(1)
            .steps("TELL").refuses(-2, "LEAVE").choose(2).steps("LEAVE").choose(0).counts(0, 0).choose(1).counts(3, 1)
            .choose(2).counts(2, 1);
    }

    /** Promise 4: 'how many it had' */
    private static void clearOfNoSteps() {
        desk("clear of none").clear().clear().counts(0, 0);
        desk("clear of 40").steps(40, "NOTE 0").clear().clear().steps(40, "NOTE 0").counts(40);
    }

    /** 'The routine at hand has no steps then', nor open blocks. */
    private static void clearOfOpenBlocks() {
        desk("clear of open blocks").steps("LOOP 1, TRY, CATCH 1").steps(4, "TRY").counts(7, 6).clear().counts(0, 0)
            .refuses(-2, "END, CATCH 1, FINALLY, LEAVE, TELL").run(0).steps("RETURN").steps(6, "LOOP 1").count(1, 6);
        desk("clear of FINALLY").steps("TRY, FINALLY").clear().steps("RETURN").run(0);
        desk("clear of three CATCHes").steps("TRY, CATCH 1, CATCH 1, CATCH 1").clear()
            .steps("TRY, THROW 1, CATCH 2, CATCH 9, TELL, END").run(0).logs(9, 1, 2, 0);
        desk("nothing shows of what was there").steps("TRY, THROW 1, CATCH 9, NOTE 0, FINALLY, NOTE 0, END").run(0).clear()
            .steps("TRY, THROW 1, END").run(9).logs().counts(3, 0, 2, 0, 0, 0);
    }

    private static void clearLeavesTheRest() {
        desk("clear leaves the rest").choose(1).steps("NOTE 0").choose(0).steps("SET 0 8, MAKE 0 0, NOTE 0, THROW 1").run(9)
            .clear().counts(0, 0, 4, 1, 0, 0).faults(9, 3, 2, 1, 0, 3).logs(1).dial(0, 1).size(0, 1).choose(1).counts(1);
    }

    /** Promise 5: '0 it is over' */
    private static void runOfNoSteps() {
        for (int r = 0; r < 4; r++) {
            desk("run of empty " + r).choose(r).run(0).counts(0, 0, 0, 0, 0, 0).noFault();
        }
    }

    /** Promise 5: '-1 ..: a block of it is open' */
    private static void runOfOpenBlocks() {
        for (String open : new String[] {"TRY", "LOOP 0", "IF 0 0 0", "TRY, CATCH 1", "TRY, FINALLY", "TRY, TRY, END"}) {
            desk("run of open " + open).steps(open).run(-1).steps("END").run(0);
        }
        desk("an open block of another routine").choose(1).steps("TRY").choose(0).steps("NOTE 0").run(0).logs(0);
        desk("the open routine alone").choose(1).steps("TRY").choose(0).run(0).choose(1).run(-1).clear().run(0);
    }

    /** Promise 5: 'and nothing is done' */
    private static void runDoesNothingThen() {
        desk("run that is refused").steps("SET 1 8, NOTE 1, TRY, THROW 2, CATCH 9, FINALLY, END, THROW 3").run(9)
            .steps("SET 1 80, LOOP 1").run(-1).counts(10, 1, 5, 1, 1, 1).faults(9, 7, 4, 3, 0, 7).logs(1).dial(1, 1);
        desk("a first run that is refused").steps("SET 1 8, NOTE 1, TRY").run(-1).counts(3, 1, 0, 0, 0, 0).noFault().dial(1, 0);
        desk("another routine's run").steps("THROW 3").run(9).choose(2).steps("TRY").run(-1).faults(9, 0).count(2, 1);
    }

    /** Promise 5: 'else the kind of the fault that was thrown out of it' */
    private static void runTellsTheKind() {
        String[] throwing = {"COUNT 0 0", "GET 1 7 0", "MAKE 0 1", "FINE 3 0 7", "MAKE 0 2", "THROW 0", "CALL 3"};
        int[] kinds = {3, 4, 5, 7, 8, 9, 10};
        for (int i = 0; i < kinds.length; i++) {
            desk("run to " + kinds[i]).choose(3).steps("TRY").choose(0).steps("SET 1 -8, SET 2 136, MAKE 1 7")
                .steps(throwing[i]).run(kinds[i]).faults(kinds[i], 3);
        }
        desk("run to 11").steps("TRY, THROW 0, CATCH 1, WRAP 0, END").run(11).faults(11, 3);
    }

    /** Promise 6: '0 if there is none such' */
    private static void dialOfNoneSuch() {
        Desk desk = desk("dials");
        for (int d = 0; d < 8; d++) {
            desk.add(Desk.SET, d, 8 * (d + 1));
        }
        desk.run(0);
        for (int d = 0; d < 8; d++) {
            desk.dial(d, d + 1);
        }
        for (int wrong : new int[] {-1, 8, 9, LEAST, MOST}) {
            desk.dial(wrong, 0);
        }
        desk("a dial of -0").turn(5, -0.0).dial(5, -0.0);
    }

    /** Promise 7: '-1 if it is MISSING, -2 if there is none such' */
    private static void sizeOfMissingAndNoneSuch() {
        for (int w = 0; w < 18; w++) {
            desk("size of " + w).size(w, -1).add(Desk.MAKE, w, 0).run(0).size(w, 0).clear().steps("SET 0 128")
                .add(Desk.MAKE, w, 0).run(0).size(w, 16).clear().add(Desk.DROP, w).run(0).size(w, -1);
        }
        for (int wrong : new int[] {-1, 18, 19, LEAST, MOST}) {
            desk("size of " + wrong).size(wrong, -2);
        }
    }

    /** A row with 1 in its first and its last place of 16. */
    private static Desk filled(int w) {
        Desk desk = desk("values of " + w).steps("SET 0 128, SET 1 120, SET 2 8").add(Desk.MAKE, w, 0);
        if (w >= 16) {
            desk.add(Desk.FIT, w, 7).add(Desk.FIT, w, 1);
        }
        return desk.add(Desk.PUT, w, 7, 2).add(Desk.PUT, w, 1, 2).run(0);
    }

    /** Promise 8: '0 where there is none such' */
    private static void valueOfNoneSuch() {
        for (int w = 0; w < 18; w++) {
            Desk desk = filled(w).value(w, 0, 1).value(w, 15, 1);
            for (int wrong : new int[] {-1, 16, 17, LEAST, MOST}) {
                desk.value(w, wrong, 0);
            }
            // The places right before and right behind it are none of the rows beside it.
            desk.value(w + 1, -1, 0).value(w - 1, 16, 0).value(w + 1, 0, 0).value(w - 1, 15, 0);
            desk.clear().add(Desk.DROP, w).run(0).value(w, 0, 0).value(w, 15, 0);
        }
        for (int wrong : new int[] {-1, 18, LEAST, MOST}) {
            filled(0).value(wrong, 0, 0).value(wrong, 15, 0);
            filled(17).value(wrong, 0, 0).value(wrong, 15, 0).value(wrong, wrong, 0);
        }
        desk("a shorter row").steps("SET 0 16, SET 1 8, MAKE 8 0, PUT 8 1 0").run(0).value(8, 1, 2).clear()
            .steps("MAKE 8 1").run(0).value(8, 1, 0);
    }

    /** Promise 8: '(of a PROBE its double)', 'or NONE' */
    private static void valueOfNone() {
        for (int w = 16; w < 18; w++) {
            desk("value of NONE in " + w).steps("SET 0 16, SET 1 8").add(Desk.MAKE, w, 0).run(0).value(w, 0, 0).value(w, 1, 0)
                .clear().add(Desk.FIT, w, 1).run(0).value(w, 1, 0).clear().add(Desk.PUT, w, 1, 0).run(0).value(w, 1, 2)
                .value(w, 0, 0);
        }
        desk("value of -0").turn(1, -0.0).steps("SET 0 8, MAKE 14 0, PUT 14 7 1, MAKE 17 0, FIT 17 7, PUT 17 7 1").run(0)
            .value(14, 0, -0.0).value(17, 0, -0.0);
    }

    /** Promise 9: 'Whether place i of row w holds a PROBE', of no place that is not there. */
    private static void isFittedOfNoneSuch() {
        for (int w = 0; w < 16; w++) {
            filled(w).fitted(w, 0, false).fitted(w, 15, false);
        }
        for (int w = 16; w < 18; w++) {
            Desk desk = filled(w).fitted(w, 0, true).fitted(w, 15, true).fitted(w, 1, false).fitted(33 - w, 0, false);
            for (int wrong : new int[] {-1, 16, LEAST, MOST}) {
                desk.fitted(w, wrong, false);
            }
            for (int wrong : new int[] {-1, 18, LEAST, MOST}) {
                desk.fitted(wrong, 0, false).fitted(wrong, 15, false);
            }
            desk.fitted(w + 1, -1, false).fitted(w - 1, 16, false);
            desk.clear().add(Desk.DROP, w).run(0).fitted(w, 0, false).fitted(w, 15, false);
        }
    }

    /** Promise 10: '0 if there is none such' */
    private static void logOfNoneSuch() {
        Desk desk = desk("log").log(0, 0).steps("SET 0 8, SET 1 -16, NOTE 0, NOTE 1, NOTE 0").run(0).logs(1, -2, 1);
        for (int wrong : new int[] {-1, 3, 4, 800, LEAST, MOST}) {
            desk.log(wrong, 0);
        }
        desk.clear().steps("NOTE 0").run(0).logs(1).log(1, 0).log(2, 0).clear().run(0).log(0, 0);
    }

    /** Promise 11: 'has a - (that of -0, too)' */
    private static void isMinusOfMinusZero() {
        desk("isMinus").turn(0, -0.0).turn(1, -0.125).turn(2, 1e15).turn(3, -1e15).turn(4, -Double.MIN_VALUE)
            .steps("NOTE 0, NOTE 1, NOTE 2, NOTE 3, NOTE 4, NOTE 5").run(0).minus(0, true).minus(1, true).minus(2, false)
            .minus(3, true).minus(4, true).minus(5, false);
    }

    private static void isMinusOfNoneSuch() {
        Desk desk = desk("isMinus of none").minus(0, false).steps("SET 0 -8, NOTE 0, NOTE 0").run(0).minus(0, true).minus(1, true);
        for (int wrong : new int[] {-1, 2, 3, 800, LEAST, MOST}) {
            desk.minus(wrong, false);
        }
        desk.clear().steps("NOTE 0").run(0).minus(0, true).minus(1, false).clear().run(0).minus(0, false);
    }

    /** Promise 12: '-1: no such what' */
    private static void countOfNoSuchWhat() {
        for (int wrong : new int[] {-1, 6, 7, LEAST, MOST}) {
            desk("count " + wrong).count(wrong, -1).steps("NOTE 0").run(0).count(wrong, -1);
        }
    }

    /** '2 counted in the latest run (0 without one)' */
    private static void countWithoutARun() {
        desk("count without a run").steps("NOTE 0, TRY, FINALLY").counts(3, 1, 0, 0, 0, 0).run(-1).counts(3, 1, 0, 0, 0, 0);
    }

    /** '2 .., 3 .., 4 .., 5 ..' are of the latest run alone. */
    private static void countOfTheLatestRun() {
        desk("counts of the latest run").steps("LOOP 2, TRY, THROW 1, CATCH 9, NOTE 0, FINALLY, END, END").run(0)
            .counts(8, 0, 9, 2, 2, 2).run(0).counts(8, 0, 9, 2, 2, 2).choose(1).counts(0, 0, 9, 2, 2, 2).run(0)
            .counts(0, 0, 0, 0, 0, 0);
        desk("a fault that no CATCH fits").steps("TRY, THROW 1, CATCH 2, END").run(9).counts(4, 0, 2, 0, 0, 0);
        desk("a fault that is CAUGHT twice").steps("TRY, TRY, THROW 1, CATCH 9, AGAIN, END, CATCH 9, END").run(0).count(4, 2);
        desk("FINALLY that throws").steps("TRY, FINALLY, THROW 1, END").run(9).count(5, 1);
    }

    /** '1 blocks that are open in it' */
    private static void countOfOpenBlocks() {
        Desk desk = desk("open blocks").count(1, 0);
        for (int open = 1; open <= 6; open++) {
            desk.steps("TRY").count(1, open);
        }
        desk.steps("CATCH 1").count(1, 6).steps("FINALLY").count(1, 6);
        for (int open = 5; open >= 0; open--) {
            desk.steps("END").count(1, open);
        }
    }

    /** Promise 13: '-1 .. no such what' */
    private static void faultOfNoSuchWhat() {
        Desk desk = desk("fault").steps("THROW 1").run(9).faults(9, 0, 2, 1, 0, 0);
        for (int wrong : new int[] {-1, 6, 7, LEAST, MOST}) {
            desk.fault(wrong, -1);
        }
    }

    /** '-1 if none was': without a run. */
    private static void faultWithoutARun() {
        desk("no run").noFault().fault(-1, -1).fault(6, -1).steps("TRY").run(-1).noFault();
    }

    /** '-1 if none was': a run out of which none was thrown, behind one out of which one was. */
    private static void faultOfARunThatWasOver() {
        desk("none behind one").steps("THROW 1").run(9).fault(0, 9).clear().steps("NOTE 0").run(0).noFault();
        desk("a caught one").steps("TRY, THROW 1, CATCH 9, END").run(0).noFault();
        desk("one behind none").run(0).noFault().steps("COUNT 0 0").run(3).faults(3, 0, 11, 0, 0, 0);
        desk("a caught one in FINALLY").steps("TRY, FINALLY, TRY, THROW 1, CATCH 1, END, END").run(0).noFault();
        desk("a forgotten one").steps("TRY, TRY, THROW 1, FINALLY, THROW 2, END, CATCH 1, END").run(0).noFault();
    }

    /** 'Of the fault that was thrown out of the latest run', whatever is at hand and done to routines since. */
    private static void faultOfTheLatestRun() {
        desk("the latest run").choose(1).steps("TRY, THROW 30, CATCH 9, WRAP 4, END").run(11).faults(11, 43, 72, 4, 1, 41)
            .clear().choose(0).faults(11, 43, 72, 4, 1, 41).steps("THROW 2").faults(11, 43).run(9).faults(9, 0, 3, 2, 0, 0);
    }
}
