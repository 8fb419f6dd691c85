/** 'Terms', a run: a test for each sentence that names an edge. */
public final class RunEdgesTest {
    private static final Check CHECK = new Check("edges of a run");

    public static void main(String[] args) {
        aRunOfNoSteps();
        aRunOfFortySteps();
        endAndPartsAreNotCounted();
        roundsAreCounted();
        twoHundredAreCounted();
        theNextStepThrowsTired();
        stepsOfBlocksThrowTired();
        stepsThatAreNotCountedDoNotTire();
        roundsThrowTired();
        aTryThatIsNotBegun();
        partsAreBegunWhenTired();
        aStepThatThrowsDoesNothingElse();
        firstPartUpToCatchFinallyEnd();
        catchPartUpToCatchFinallyEnd();
        theFirstCatchThatFits();
        noCatchThatFits();
        faultsOfLaterPartsAreNotCaught();
        finallyAtTheEnd();
        finallyBehindLeave();
        finallyBehindReturn();
        finallyBehindAFault();
        finallyBehindACaughtFault();
        finallyOfTriesInOneAnother();
        aFaultOutOfFinally();
        whatIsCaughtInFinally();
        noRounds();
        mostRounds();
        leaveOfTheInnermostLoop();
        leaveThroughBlocks();
        ifBelow();
        ifLike();
        ifNotLike();
        ifNotBelow();
        ifOfMinusZero();
        returnOutOfBlocks();
        callOfNoSteps();
        callOfAnOpenBlock();
        callOfARoutineThatWasOpen();
        fourCalls();
        callsThatAreOver();
        callsThatWereLeftByFaults();
        returnOfACalledRoutine();
        aFaultOutOfACalledRoutine();
        againAsItIs();
        wrapOfFiveEarlierOnes();
        tellTellsFourNumbers();
        theInnermostCatchPart();
        theLongestLog();
        theLogIsEmptyAtTheBeginning();
        dialsAndRowsStay();
        CHECK.end();
    }

    private static Desk desk(String name) {
        return new Desk(CHECK, name);
    }

    /** The first step of routine 0 leaves 0 to 6 that can be counted yet. */
    private static Desk almostTired(String name, int left) {
        return desk(name).choose(3).steps("LOOP 6").steps(31, "SET 5 0").steps("END").steps(6 - left, "SET 5 0")
            .choose(0).steps("CALL 3");
    }

    private static void aRunOfNoSteps() {
        desk("no steps").run(0).counts(0, 0, 0, 0, 0, 0).noFault().logs();
    }

    /** 'does a routine's steps one behind the other', to the last that there can be. */
    private static void aRunOfFortySteps() {
        Desk desk = desk("40 steps");
        double[] due = new double[20];
        for (int i = 0; i < 20; i++) {
            desk.add(Desk.SET, 1, 8 * i).steps("NOTE 1");
            due[i] = i;
        }
        desk.run(0).logs(due).count(2, 40);
    }

    /** 'It COUNTS each step as it is begun (not END, CATCH, FINALLY)' */
    private static void endAndPartsAreNotCounted() {
        desk("END, CATCH, FINALLY").steps("TRY, CATCH 1, CATCH 2, FINALLY, END").run(0).count(2, 1);
        desk("ENDs").steps("IF 0 1 0, TRY, END, END").run(0).count(2, 2);
        desk("parts that are done").steps("TRY, THROW 1, CATCH 1, NOTE 0, FINALLY, NOTE 0, END, NOTE 0").run(0).count(2, 5);
        desk("parts that are not done").steps("TRY, CATCH 1, NOTE 0, NOTE 0, END").run(0).count(2, 1);
        desk("a step that throws").steps("THROW 1, NOTE 0").run(9).count(2, 1);
        desk("an IF that is not so").steps("IF 0 2 0, NOTE 0, END").run(0).count(2, 1);
        desk("LEAVE, RETURN, CALL").steps("LOOP 1, LEAVE, END, CALL 1, RETURN").run(0).count(2, 5);
    }

    /** 'and each round, at once' */
    private static void roundsAreCounted() {
        desk("rounds of nothing").steps("LOOP 6, END").run(0).count(2, 7);
        desk("rounds of steps").steps("LOOP 3, NOTE 0, NOTE 0, END").run(0).count(2, 10);
        desk("a round that is left").steps("LOOP 3, LEAVE, NOTE 0, END").run(0).count(2, 3);
        desk("a round that throws").steps("LOOP 3, THROW 1, END").run(9).count(2, 3);
    }

    /** 'where 200 are counted' */
    private static void twoHundredAreCounted() {
        almostTired("199", 2).steps("NOTE 0").run(0).count(2, 199).noFault();
        almostTired("200", 1).steps("NOTE 0").run(0).count(2, 200).logs(0).noFault();
        almostTired("201", 0).steps("NOTE 0").run(10).count(2, 200).logs().faults(10, 1, 1, 0, 0, 1);
        almostTired("202", 0).steps("NOTE 0, NOTE 0").run(10).count(2, 200).faults(10, 1, 1, 0, 0, 1);
        almostTired("200 in each run anew", 1).steps("NOTE 0").run(0).run(0).count(2, 200);
    }

    /** 'the next one throws TIRED and is not counted', whatever it would do. */
    private static void theNextStepThrowsTired() {
        String[] steps = {"TRY, CATCH 1, END", "LOOP 0, END", "LOOP 6, END", "IF 0 2 0, END", "IF 0 1 0, END", "RETURN",
            "THROW 9", "CALL 1", "CALL 2", "MAKE 0 0", "DROP 1", "COUNT 0 0", "COUNT 1 0", "GET 0 0 1", "PUT 0 0 1",
            "FIT 16 0", "SET 0 80", "FINE 10 0 1", "FINE 3 0 0", "ROUGH 3 0 0", "WHOLE 3 0 0", "WIDE 3 0 0", "NOTE 0"};
        for (String step : steps) {
            almostTired("tired " + step, 0).choose(2).steps("TRY").choose(1).steps("SET 0 8, MAKE 1 0, SET 0 0").run(0)
                .choose(0).steps(step).steps("NOTE 0").run(10).faults(10, 1, 1, 0, 0, 1)
                .counts(step.split(",").length + 2, 0, 200, 0, 0, 0).dial(0, 0).size(0, -1).size(1, 1);
        }
    }

    /** Likewise those that stand in blocks alone. */
    private static void stepsOfBlocksThrowTired() {
        almostTired("LEAVE", 2).steps("LOOP 1, LEAVE, END").run(10).fault(1, 2).count(2, 200);
        almostTired("LEAVE that is counted", 3).steps("LOOP 1, LEAVE, END").run(0).count(2, 200);
        for (String step : new String[] {"AGAIN", "WRAP 1", "TELL"}) {
            almostTired("tired " + step, 2).steps("TRY, THROW 1, CATCH 1").steps(step).steps("END").run(10)
                .faults(10, 4, 1, 0, 0, 4).counts(6, 0, 200, 0, 1, 0);
        }
        almostTired("AGAIN that is counted", 3).steps("TRY, THROW 1, CATCH 1, AGAIN, END").run(9).count(2, 200);
        almostTired("WRAP that is counted", 3).steps("TRY, THROW 1, CATCH 1, WRAP 1, END").run(11).count(2, 200);
        almostTired("TELL that is counted", 3).steps("TRY, THROW 1, CATCH 1, TELL, END").run(0).counts(6, 0, 200, 4, 1);
    }

    /** END, CATCH and FINALLY are done where 200 are counted. */
    private static void stepsThatAreNotCountedDoNotTire() {
        almostTired("END", 1).steps("TRY, END").run(0).count(2, 200);
        almostTired("FINALLY", 1).steps("TRY, CATCH 1, FINALLY, END").run(0).counts(5, 0, 200, 0, 0, 1);
        almostTired("CATCH", 2).steps("TRY, THROW 1, CATCH 1, FINALLY, END").run(0).counts(6, 0, 200, 0, 1, 1);
        almostTired("END of a LOOP", 2).steps("LOOP 1, END").run(0).count(2, 200);
        almostTired("the end of a CALL", 1).steps("CALL 1").run(0).count(2, 200);
    }

    /** '(TIRED is thrown by the LOOP then)' */
    private static void roundsThrowTired() {
        almostTired("the first round", 1).steps("LOOP 1, NOTE 0, END").run(10).faults(10, 1, 1, 0, 0, 1)
            .counts(4, 0, 200, 0);
        almostTired("the second round", 3).steps("LOOP 2, NOTE 0, END").run(10).faults(10, 1, 1, 0, 0, 1)
            .counts(4, 0, 200, 1);
        almostTired("a step of a round", 2).steps("LOOP 2, NOTE 0, END").run(10).fault(1, 2).count(2, 200);
        almostTired("a TRY within does not catch it", 3).steps("LOOP 6, TRY, CATCH 10, NOTE 0, FINALLY, END, END").run(10)
            .faults(10, 1).counts(8, 0, 200, 0, 0, 1);
        almostTired("a TRY around catches it", 3).steps("TRY, LOOP 6, END, CATCH 10, END").run(0)
            .counts(6, 0, 200, 0, 1, 0).noFault();
        almostTired("no rounds", 1).steps("LOOP 0, NOTE 0, END").run(0).count(2, 200);
    }

    private static void aTryThatIsNotBegun() {
        almostTired("a TRY that is not begun", 0).steps("TRY, CATCH 1, FINALLY, END").run(10)
            .counts(5, 0, 200, 0, 0, 0);
        almostTired("the TRY around it", 1).steps("TRY, TRY, CATCH 1, FINALLY, END, CATCH 10, FINALLY, END").run(0)
            .counts(9, 0, 200, 0, 1, 1).noFault();
    }

    /** Parts are begun where 200 are counted, but no step of theirs is; what is thrown last goes on. */
    private static void partsAreBegunWhenTired() {
        almostTired("a step of CATCH", 1).steps("TRY, NOTE 0, CATCH 10, NOTE 0, END").run(10).fault(1, 4)
            .counts(6, 0, 200, 0, 1, 0);
        almostTired("a step of FINALLY", 1).steps("TRY, NOTE 0, CATCH 10, NOTE 0, FINALLY, NOTE 0, END").run(10).fault(1, 6)
            .counts(8, 0, 200, 0, 1, 1);
        almostTired("a RETURN is forgotten", 2).steps("TRY, RETURN, FINALLY, NOTE 0, END").run(10).fault(1, 4);
        almostTired("an OWN is forgotten", 2).steps("TRY, THROW 1, FINALLY, NOTE 0, END").run(10).fault(1, 4);
        almostTired("TIRED is wrapped by none", 1).steps("TRY, NOTE 0, CATCH 10, WRAP 1, END").run(10)
            .faults(10, 4, 1, 0, 0, 4);
    }

    /** 'A step that throws does nothing else.' */
    private static void aStepThatThrowsDoesNothingElse() {
        String before = "SET 0 8, SET 1 -8, SET 2 136, SET 3 24, MAKE 8 0, MAKE 16 0, PUT 8 7 3, SET 4 80";
        String[] throwing = {"MAKE 8 1", "MAKE 8 2", "COUNT 9 3", "GET 9 7 3", "GET 8 0 3", "GET 8 1 3", "GET 16 7 3",
            "GET 16 0 3", "PUT 9 7 4", "PUT 8 0 4", "PUT 8 1 4", "PUT 16 7 4", "FIT 17 7", "FIT 16 0", "FIT 16 1",
            "FINE 3 3 7", "FINE 4 3 7", "ROUGH 3 3 7", "ROUGH 4 3 7", "WHOLE 3 3 7", "WHOLE 4 3 7", "WIDE 3 3 7",
            "WIDE 4 3 7"};
        int[] kinds = {5, 8, 3, 3, 4, 4, 3, 4, 3, 4, 4, 3, 3, 4, 4, 7, 7, 7, 7, 7, 7, 7, 7};
        for (int i = 0; i < throwing.length; i++) {
            desk(throwing[i] + " throws").steps(before).steps(throwing[i]).steps("NOTE 0").run(kinds[i])
                .faults(kinds[i], 8).counts(10, 0, 9, 0).dial(0, 1).dial(1, -1).dial(2, 17).dial(3, 3).dial(4, 10)
                .dial(7, 0).size(8, 1).value(8, 0, 3).size(9, -1).size(16, 1).fitted(16, 0, false).size(17, -1);
        }
        for (String sum : new String[] {"FINE 2 0 1", "ROUGH 2 0 1", "WIDE 2 0 1"}) {
            desk(sum + " throws").turn(0, 1e15).turn(1, -3).steps(sum).run(8).dial(0, 1e15).dial(1, -3);
        }
    }

    /** 'its first part is done (up to its first CATCH or FINALLY, or its END)' */
    private static void firstPartUpToCatchFinallyEnd() {
        desk("up to CATCH").steps("SET 1 8, TRY, NOTE 1, CATCH 1, NOTE 0, CATCH 1, NOTE 0, END, NOTE 1").run(0).logs(1, 1);
        desk("up to FINALLY").steps("SET 1 8, TRY, NOTE 1, FINALLY, NOTE 0, END, NOTE 1").run(0).logs(1, 0, 1);
        desk("up to END").steps("SET 1 8, TRY, NOTE 1, END, NOTE 0").run(0).logs(1, 0);
        desk("an empty one up to CATCH").steps("TRY, CATCH 1, NOTE 0, END").run(0).logs();
        desk("an empty one up to FINALLY").steps("TRY, FINALLY, NOTE 0, END").run(0).logs(0);
        desk("an empty one up to END").steps("TRY, END, NOTE 0").run(0).logs(0);
    }

    /** 'is done (up to the next CATCH, FINALLY, END)' */
    private static void catchPartUpToCatchFinallyEnd() {
        String before = "SET 1 8, TRY, THROW 1, CATCH 9, NOTE 1";
        desk("up to CATCH").steps(before).steps("CATCH 1, NOTE 0, END, NOTE 1").run(0).logs(1, 1);
        desk("up to FINALLY").steps(before).steps("FINALLY, NOTE 0, END, NOTE 1").run(0).logs(1, 0, 1);
        desk("up to END").steps(before).steps("END, NOTE 0").run(0).logs(1, 0);
        desk("an empty one").steps("TRY, THROW 1, CATCH 9, CATCH 1, NOTE 0, END").run(0).logs().counts(6, 0, 2, 0, 1, 0);
    }

    /** 'the first of its CATCH parts by whose a it is UNDER' */
    private static void theFirstCatchThatFits() {
        String[] parts = {"CATCH 9, NOTE 1, CATCH 1, NOTE 2, CATCH 9, NOTE 3", "CATCH 2, NOTE 1, CATCH 1, NOTE 2, CATCH 9, NOTE 3",
            "CATCH 2, NOTE 1, CATCH 11, NOTE 2, CATCH 9, NOTE 3"};
        for (int i = 0; i < 3; i++) {
            desk("CATCH " + i).steps("SET 1 8, SET 2 16, SET 3 24, TRY, THROW 1").steps(parts[i]).steps("END, NOTE 0").run(0)
                .logs(i + 1, 0).count(4, 1);
        }
    }

    /** 'if there is one' */
    private static void noCatchThatFits() {
        desk("no CATCH").steps("TRY, THROW 1, END, NOTE 0").run(9).logs().count(4, 0);
        desk("none of one").steps("TRY, THROW 1, CATCH 2, NOTE 0, END, NOTE 0").run(9).logs().count(4, 0);
        desk("none of three").steps("TRY, THROW 1, CATCH 2, NOTE 0, CATCH 6, NOTE 0, CATCH 11, NOTE 0, END, NOTE 0").run(9)
            .logs().count(4, 0);
        desk("none, but of the TRY around").steps("TRY, TRY, THROW 1, CATCH 2, END, NOTE 0, CATCH 9, TELL, END").run(0)
            .logs(9, 2, 2, 0).count(4, 1);
    }

    /** 'If a fault is thrown out of it', the first part: not out of the later ones. */
    private static void faultsOfLaterPartsAreNotCaught() {
        desk("out of CATCH").steps("TRY, THROW 1, CATCH 9, THROW 2, CATCH 1, NOTE 0, END").run(9).logs()
            .faults(9, 3, 3, 2, 0, 3).count(4, 1);
        desk("out of FINALLY").steps("TRY, CATCH 1, NOTE 0, FINALLY, THROW 2, END").run(9).logs().faults(9, 4).count(4, 0);
    }

    /** 'however these were left (at their end' */
    private static void finallyAtTheEnd() {
        desk("the first part's end").steps("SET 1 8, TRY, NOTE 0, FINALLY, NOTE 1, END, NOTE 0").run(0).logs(0, 1, 0)
            .count(5, 1);
        desk("the end of both").steps("TRY, FINALLY, END").run(0).count(5, 1);
        desk("no FINALLY").steps("TRY, END").run(0).count(5, 0);
    }

    /** 'by LEAVE' */
    private static void finallyBehindLeave() {
        desk("LEAVE").steps("SET 1 8, LOOP 2, TRY, LEAVE, FINALLY, NOTE 1, END, NOTE 0, END, NOTE 0").run(0).logs(1, 0)
            .counts(10, 0, 7, 2, 0, 1);
        desk("LEAVE of a CATCH part").steps("SET 1 8, LOOP 2, TRY, THROW 1, CATCH 9, LEAVE, FINALLY, NOTE 1, END, NOTE 0, END")
            .steps("NOTE 0").run(0).logs(1, 0).counts(12, 0, 8, 2, 1, 1);
    }

    /** 'by RETURN' */
    private static void finallyBehindReturn() {
        desk("RETURN").steps("SET 1 8, TRY, RETURN, FINALLY, NOTE 1, END, NOTE 0").run(0).logs(1).count(5, 1);
        desk("RETURN of a CATCH part").steps("SET 1 8, TRY, THROW 1, CATCH 9, RETURN, FINALLY, NOTE 1, END, NOTE 0").run(0)
            .logs(1).count(5, 1).count(4, 1);
        desk("RETURN of a called one").choose(1).steps("SET 1 8, TRY, RETURN, FINALLY, NOTE 1, END, NOTE 0").choose(0)
            .steps("CALL 1, NOTE 7").run(0).logs(1, 0).count(5, 1);
    }

    /** 'by a fault, .. not' caught */
    private static void finallyBehindAFault() {
        desk("a fault").steps("TRY, THROW 1, FINALLY, NOTE 0, END, NOTE 0").run(9).logs(0).faults(9, 1).count(5, 1);
        desk("a fault that no CATCH fits").steps("TRY, THROW 1, CATCH 2, NOTE 0, FINALLY, NOTE 0, END, NOTE 0").run(9).logs(0)
            .faults(9, 1).count(5, 1);
        desk("a fault of a CATCH part").steps("TRY, THROW 1, CATCH 9, THROW 2, FINALLY, NOTE 0, END, NOTE 0").run(9).logs(0)
            .faults(9, 3).count(5, 1).count(4, 1);
        desk("AGAIN").steps("TRY, THROW 1, CATCH 9, AGAIN, FINALLY, NOTE 0, END, NOTE 0").run(9).logs(0).faults(9, 1);
    }

    /** 'by a fault, caught' */
    private static void finallyBehindACaughtFault() {
        desk("a caught fault").steps("SET 1 8, TRY, THROW 1, CATCH 9, NOTE 0, FINALLY, NOTE 1, END, NOTE 0").run(0)
            .logs(0, 1, 0).counts(9, 0, 6, 3, 1, 1).noFault();
    }

    private static void finallyOfTriesInOneAnother() {
        desk("RETURN through six").steps(6, "TRY").steps("RETURN").steps(6, "FINALLY, NOTE 0, END").steps("THROW 1").run(0)
            .count(3, 6).count(5, 6);
        desk("a fault through six").steps(6, "TRY").steps("THROW 1").steps(6, "FINALLY, NOTE 0, END").steps("NOTE 0").run(9)
            .faults(9, 6).count(3, 6).count(5, 6);
    }

    /** 'If a fault is thrown out of that, this one goes on, and what went on before is forgotten' */
    private static void aFaultOutOfFinally() {
        String last = "FINALLY, THROW 50, END";
        desk("an end").steps("TRY").steps(last).steps("NOTE 0").run(9).faults(9, 2, 51, 50).logs();
        desk("a fault").steps("TRY, THROW 1").steps(last).run(9).faults(9, 3, 51, 50, 0, 3);
        desk("a fault of another kind").steps("TRY, COUNT 0 0").steps(last).run(9).faults(9, 3, 51, 50, 0, 3);
        desk("a fault of a CATCH part").steps("TRY, THROW 1, CATCH 1, WRAP 2").steps(last).run(9).faults(9, 5, 51, 50, 0, 5);
        desk("a caught fault").steps("TRY, THROW 1, CATCH 1").steps(last).run(9).faults(9, 4, 51, 50, 0, 4);
        desk("a RETURN").steps("TRY, TRY, RETURN").steps(last).steps("CATCH 9, END, NOTE 0").run(0).logs(0).noFault();
        desk("a LEAVE").steps("LOOP 3, TRY, TRY, LEAVE").steps(last).steps("CATCH 9, END, NOTE 0, END").run(0).logs(0, 0, 0);
        desk("FINALLY of FINALLY").steps("TRY, THROW 1, FINALLY, TRY, THROW 2, FINALLY, THROW 3, END, END").run(9)
            .faults(9, 6, 4, 3, 0, 6).count(5, 2);
        desk("a FINALLY behind it").steps("TRY, TRY, THROW 1").steps(last).steps("FINALLY, NOTE 0, END").run(9)
            .faults(9, 4, 51).logs(0).count(5, 2);
    }

    /** 'else it goes on as it did: behind END, or with that LEAVE, RETURN, fault' */
    private static void whatIsCaughtInFinally() {
        String last = "FINALLY, TRY, THROW 50, CATCH 9, END, END";
        desk("behind END").steps("TRY").steps(last).steps("NOTE 0").run(0).logs(0).noFault();
        desk("with that fault").steps("TRY, THROW 1").steps(last).steps("NOTE 0").run(9).faults(9, 1, 2, 1, 0, 1).logs();
        desk("with that WRAPPED").steps("TRY, THROW 1, CATCH 9, WRAP 2").steps(last).run(11).faults(11, 3, 10, 2, 1, 1);
        desk("with that RETURN").steps("TRY, RETURN").steps(last).steps("NOTE 0").run(0).logs().noFault();
        desk("with that LEAVE").steps("LOOP 3, TRY, LEAVE").steps(last).steps("NOTE 0, END, NOTE 0").run(0).logs(0).noFault();
        desk("a TRY that ends in it").steps("TRY, THROW 1, FINALLY, TRY, NOTE 0, CATCH 1, NOTE 0, END, END, NOTE 0").run(9)
            .faults(9, 1).logs(0).count(4, 0);
        desk("a LOOP that is left in it").steps("TRY, THROW 1, FINALLY, LOOP 2, LEAVE, END, NOTE 0, END, NOTE 0").run(9)
            .faults(9, 1).logs(0);
        desk("a routine that returns in it").choose(1).steps("RETURN").choose(0).steps("TRY, THROW 1, FINALLY, CALL 1, NOTE 0, END")
            .steps("NOTE 0").run(9).faults(9, 1).logs(0);
    }

    /** 'LOOP a: a times over', 0 times. */
    private static void noRounds() {
        desk("LOOP 0").steps("LOOP 0, THROW 1, END, NOTE 0").run(0).logs(0).count(2, 2);
        desk("LOOP 0 around blocks").steps("LOOP 0, TRY, LOOP 1, END, FINALLY, END, END").run(0).counts(7, 0, 1, 0, 0, 0);
    }

    private static void mostRounds() {
        for (int rounds = 1; rounds <= 6; rounds++) {
            desk("LOOP " + rounds).add(Desk.LOOP, rounds).steps("NOTE 0, END").run(0).counts(3, 0, 1 + 2 * rounds, rounds);
        }
    }

    /** 'LEAVE: the innermost LOOP around it is left, it goes on behind its END' */
    private static void leaveOfTheInnermostLoop() {
        desk("LEAVE").steps("SET 1 8, LOOP 3, LEAVE, NOTE 0, END, NOTE 1").run(0).logs(1);
        desk("LEAVE of the inner one").steps("SET 1 8, LOOP 2, LOOP 3, LEAVE, NOTE 0, END, NOTE 1, END").run(0).logs(1, 1);
        desk("LEAVE behind the inner one").steps("SET 1 8, LOOP 2, LOOP 3, NOTE 1, END, LEAVE, END").run(0).logs(1, 1, 1);
    }

    private static void leaveThroughBlocks() {
        desk("LEAVE through blocks").steps("LOOP 3, IF 0 1 0, TRY, IF 0 1 0, LEAVE, END, CATCH 1, NOTE 0, END, NOTE 0, END")
            .steps("NOTE 0, END, NOTE 0").run(0).logs(0).counts(14, 0, 7);
        desk("LEAVE of a CATCH part").steps("LOOP 3, TRY, THROW 1, CATCH 1, LEAVE, END, NOTE 0, END, NOTE 0").run(0).logs(0);
    }

    private static void ifs(int how, boolean below, boolean like, boolean above) {
        boolean[] due = {below, like, above};
        for (int i = 0; i < 3; i++) {
            // Dial 1 is -0.125, 0, 0.125; dial 2 stays 0. 562949953421312 and an eighth more are told apart, too.
            desk("IF " + how + ", " + i).add(Desk.SET, 1, i - 1).add(Desk.IF, 1, how, 2).steps("NOTE 2, END, NOTE 2").run(0)
                .counts(5, 0, due[i] ? 4 : 3, due[i] ? 2 : 1);
            desk("IF of large ones " + how + ", " + i).turn(1, 562949953421312.0 + (i - 1) * 0.125).turn(2, 562949953421312.0)
                .add(Desk.IF, 1, how, 2).steps("NOTE 0, END").run(0).count(3, due[i] ? 1 : 0);
        }
        desk("IF of one dial " + how).add(Desk.IF, 7, how, 7).steps("NOTE 0, END").run(0).count(3, like ? 1 : 0);
    }

    /** '0 below' */
    private static void ifBelow() {
        ifs(0, true, false, false);
    }

    /** '1 like' */
    private static void ifLike() {
        ifs(1, false, true, false);
    }

    /** '2 not like' */
    private static void ifNotLike() {
        ifs(2, true, false, true);
    }

    /** '3 not below' */
    private static void ifNotBelow() {
        ifs(3, false, true, true);
    }

    /** The document tells no other order for IF than that of doubles, in which -0 and 0 are alike. */
    private static void ifOfMinusZero() {
        int[] due = {0, 1, 0, 1};
        for (int how = 0; how < 4; how++) {
            desk("IF -0 " + how).turn(1, -0.0).add(Desk.IF, 1, how, 2).steps("NOTE 0, END").run(0).count(3, due[how]);
            desk("IF 0 " + how).turn(1, -0.0).add(Desk.IF, 2, how, 1).steps("NOTE 0, END").run(0).count(3, due[how]);
        }
    }

    /** 'RETURN: the routine is over' */
    private static void returnOutOfBlocks() {
        desk("RETURN").steps("NOTE 0, RETURN, NOTE 0").run(0).logs(0).count(2, 2).noFault();
        desk("RETURN out of blocks").steps("LOOP 3, IF 0 1 0, TRY, LOOP 2, RETURN, END, CATCH 1, NOTE 0, END, NOTE 0, END, END")
            .steps("NOTE 0").run(0).logs().count(2, 7);
        desk("RETURN alone").steps("RETURN").run(0).count(2, 1);
    }

    private static void callOfNoSteps() {
        desk("CALL of no steps").steps("CALL 3, NOTE 0").run(0).logs(0).count(2, 2);
    }

    /** 'TIRED, if routine a has an open block' */
    private static void callOfAnOpenBlock() {
        for (String open : new String[] {"TRY", "LOOP 1", "IF 0 1 0", "NOTE 0, TRY, CATCH 1", "TRY, LOOP 0, END", "TRY, FINALLY"}) {
            desk("CALL of an open " + open).choose(2).steps(open).choose(0).steps("NOTE 0, CALL 2, NOTE 0").run(10).logs(0)
                .faults(10, 1, 1, 0, 0, 1).counts(3, 0, 2, 1, 0, 0);
        }
    }

    /** Closed or cleared, it can be called. */
    private static void callOfARoutineThatWasOpen() {
        desk("closed").choose(2).steps("TRY, NOTE 0").choose(0).steps("CALL 2").run(10).logs().choose(2).steps("END").choose(0)
            .run(0).logs(0);
        desk("cleared").choose(2).steps("TRY, NOTE 0").choose(0).steps("CALL 2").run(10).choose(2).clear().choose(0).run(0)
            .logs().noFault();
    }

    /** 'or 4 CALLS are being done already' */
    private static void fourCalls() {
        desk("a routine that calls itself").steps("NOTE 0, CALL 0").run(10).logs(0, 0, 0, 0, 0).faults(10, 1, 1, 0, 0, 1)
            .count(2, 10);
        String[] names = {"four calls", "a fifth call"};
        for (int i = 0; i < 2; i++) {
            // Dial 1 tells how many routines are being done; the last one of them calls no other.
            desk(names[i]).add(Desk.SET, 3, 8 * (5 + i)).steps("SET 2 8").run(0).clear()
                .steps("FINE 0 1 2, IF 1 0 3, CALL 0, END, NOTE 1").run(10 * i).dial(1, 5).count(3, i == 0 ? 5 : 0);
        }
        desk("calls of others").choose(3).steps("TRY, CALL 0, CATCH 10, TELL, END").choose(2).steps("CALL 3").choose(1)
            .steps("CALL 2").choose(0).steps("CALL 1").run(0).logs(10, 0, 1, 0);
    }

    /** 'are being done': those that are over do not count. */
    private static void callsThatAreOver() {
        desk("calls one behind the other").choose(1).steps("NOTE 0").choose(0).steps(6, "CALL 1").run(0).count(3, 6).noFault();
        desk("calls in a LOOP").choose(2).steps("CALL 1").choose(1).steps("NOTE 0").choose(0).steps("LOOP 6, CALL 2, END").run(0)
            .count(3, 6).count(2, 1 + 6 * 4);
    }

    private static void callsThatWereLeftByFaults() {
        desk("calls that were left by faults").choose(1).steps("THROW 1").choose(0)
            .steps("LOOP 6, TRY, CALL 1, CATCH 10, RETURN, CATCH 9, END, END, NOTE 0").run(0).logs(0).count(4, 6);
        desk("calls that were left by TIRED").choose(1).steps("CALL 1").choose(0)
            .steps("LOOP 3, TRY, CALL 1, CATCH 10, TELL, END, END").run(0).count(3, 12).log(9, 40).count(2, 1 + 3 * 8);
        desk("calls that were returned from").choose(1).steps("RETURN").choose(0).steps("LOOP 6, CALL 1, END, NOTE 0").run(0).logs(0);
    }

    /** 'when it is over (behind its last step, or by RETURN) it goes on behind the CALL' */
    private static void returnOfACalledRoutine() {
        desk("behind its last step").choose(1).steps("NOTE 0").choose(0).steps("SET 1 8, CALL 1, NOTE 1").run(0).logs(0, 1);
        desk("by RETURN").choose(1).steps("LOOP 3, NOTE 0, RETURN, END, NOTE 0").choose(0).steps("SET 1 8, LOOP 2, CALL 1, NOTE 1, END")
            .run(0).logs(0, 1, 0, 1);
    }

    /** 'a fault .. goes on as if CALL had thrown it (its PLACE stays)' */
    private static void aFaultOutOfACalledRoutine() {
        desk("out of the run").choose(3).steps("NOTE 0, THROW 4").choose(0).steps("CALL 3, NOTE 0").run(9).logs(0)
            .faults(9, 121, 5, 4, 0, 121);
        desk("to a CATCH around the CALL").choose(3).steps("TRY, THROW 4, CATCH 2, FINALLY, END").choose(0)
            .steps("TRY, CALL 3, NOTE 0, CATCH 9, TELL, END, NOTE 0").run(0).logs(9, 121, 5, 0, 0).counts(7, 0, 6, 5, 1, 1);
    }

    /** 'AGAIN throws the fault that is CAUGHT there, as it is' */
    private static void againAsItIs() {
        desk("AGAIN").steps("TRY, TRY, THROW 7, CATCH 9, WRAP 8, END, CATCH 11, AGAIN, END").run(11).faults(11, 4, 34, 8, 1, 2);
        desk("AGAIN and caught again").steps("TRY, TRY, THROW 7, CATCH 9, AGAIN, CATCH 1, NOTE 0, END, CATCH 9, TELL, END").run(0)
            .logs(9, 2, 8, 0);
    }

    /** 'WRAP a throws TIRED, if that fault has 5 EARLIER ones' */
    private static void wrapOfFiveEarlierOnes() {
        desk("the fifth WRAP").steps(5, "TRY").steps("THROW 0").steps(5, "CATCH 1, WRAP 0, END").run(11)
            .faults(11, 19, 94, 0, 5, 5);
        desk("the sixth WRAP").steps(6, "TRY").steps("THROW 0").steps(6, "CATCH 1, WRAP 0, END").run(10)
            .faults(10, 23, 1, 0, 0, 23).count(4, 6);
        // The TIRED of the sixth is a fault without EARLIER ones, which can be wrapped.
        desk("the seventh WRAP").choose(1).steps(6, "TRY").steps("THROW 0").steps(6, "CATCH 1, WRAP 0, END").choose(0)
            .steps("TRY, CALL 1, CATCH 10, WRAP 3, END").run(11).faults(11, 3, 10, 3, 1, 63);
        desk("a sixth WRAP that another catches").choose(1).steps(5, "TRY").steps("THROW 0").steps(5, "CATCH 1, WRAP 0, END")
            .choose(0).steps("TRY, TRY, CALL 1, CATCH 11, TELL, WRAP 3, END, CATCH 10, TELL, END").run(0)
            .logs(11, 59, 94, 5, 10, 5, 1, 0);
    }

    /** 'TELL appends four numbers of it to the LOG: its kind, its PLACE, its WEIGHT, how many EARLIER ones it has' */
    private static void tellTellsFourNumbers() {
        desk("TELL of OWN").choose(2).steps("TRY, THROW 99, CATCH 1, TELL, TELL, END").run(0)
            .logs(9, 81, 100, 0, 9, 81, 100, 0);
        desk("TELL of WRAPPED").choose(1).steps(5, "TRY").steps("THROW 0").steps(5, "CATCH 1, TELL, WRAP 0, END").run(11)
            .logs(9, 45, 1, 0, 11, 48, 4, 1, 11, 52, 10, 2, 11, 56, 22, 3, 11, 60, 46, 4);
        desk("TELL of MISSING").steps("TRY, COUNT 0 0, CATCH 1, TELL, END").run(0).logs(3, 1, 11, 0);
    }

    /** 'In a CATCH part (the innermost one around it)' */
    private static void theInnermostCatchPart() {
        desk("in a first part").steps("TRY, THROW 1, CATCH 1, TRY, TELL, END, END").run(0).logs(9, 1, 2, 0);
        desk("in the inner one").steps("TRY, THROW 1, CATCH 1, TRY, THROW 2, CATCH 1, TELL, END, END").run(0).logs(9, 4, 3, 0);
        desk("in a FINALLY part").steps("TRY, THROW 1, CATCH 1, TRY, THROW 2, CATCH 1, FINALLY, TELL, END, END").run(0)
            .logs(9, 1, 2, 0);
        desk("in a FINALLY part behind a fault").steps("TRY, THROW 1, CATCH 1, TRY, THROW 2, FINALLY, TELL, END, END").run(9)
            .logs(9, 1, 2, 0).fault(1, 4);
        desk("AGAIN in a FINALLY part").steps("TRY, THROW 1, CATCH 1, TRY, THROW 2, FINALLY, AGAIN, END, END").run(9)
            .fault(1, 1);
        desk("behind the inner one").steps("TRY, THROW 1, CATCH 1, TRY, THROW 2, CATCH 1, END, TELL, AGAIN, END").run(9)
            .logs(9, 1, 2, 0).fault(1, 1);
        desk("in a LOOP and an IF").steps("TRY, THROW 1, CATCH 1, LOOP 2, IF 0 1 0, TELL, END, END, WRAP 0, END").run(11)
            .logs(9, 1, 2, 0, 9, 1, 2, 0).faults(11, 8, 6, 0, 1, 1);
        desk("behind a CALL").choose(1).steps("TRY, THROW 5, CATCH 1, END").choose(0)
            .steps("TRY, THROW 1, CATCH 1, CALL 1, TELL, END").run(0).logs(9, 1, 2, 0);
    }

    /** Of 200 that are counted 191 TELLs: the others are TRY, THROW, LOOP and six rounds. */
    private static void theLongestLog() {
        desk("the longest LOG").steps("TRY, THROW 1, CATCH 1, LOOP 6").steps(34, "TELL").steps("END, END").run(10)
            .counts(40, 0, 200, 764, 1, 0).log(760, 9).log(761, 1).log(762, 2).log(763, 0).log(764, 0).fault(1, 25);
    }

    /** 'The LOG is empty at the beginning of each run.' */
    private static void theLogIsEmptyAtTheBeginning() {
        desk("an empty LOG").steps("NOTE 0, NOTE 0").run(0).logs(0, 0).clear().steps("SET 1 8, NOTE 1").run(0).logs(1)
            .clear().steps("THROW 1").run(9).logs().clear().run(0).logs();
    }

    /** 'Dials and rows stay as a run left them.' */
    private static void dialsAndRowsStay() {
        desk("behind a run").steps("SET 0 8, SET 1 20, MAKE 14 0, PUT 14 7 1, MAKE 16 0, FIT 16 7, PUT 16 7 1").run(0)
            .clear().run(0).dial(0, 1).dial(1, 2.5).value(14, 0, 2.5).value(16, 0, 2.5).fitted(16, 0, true)
            .steps("GET 16 7 3, NOTE 3").run(0).logs(2.5);
        desk("behind a fault").steps("SET 0 8, MAKE 14 0, THROW 1").run(9).dial(0, 1).size(14, 1).clear().run(0).dial(0, 1)
            .size(14, 1);
    }
}
