/** What the steps do in a run, and what the faults that they throw are like. */
public final class StepsTest {
    private static final Check CHECK = new Check("steps");

    public static void main(String[] args) {
        kindsUnder();
        firstCatchThatFits();
        weights();
        wrapping();
        againStaysAsItIs();
        innermostCatchPart();
        finallyHoweverLeft();
        finallyForgets();
        finallyKeeps();
        loops();
        ifs();
        returns();
        calls();
        callsAtMost();
        tired();
        tiredAndTries();
        roundsAreCounted();
        made();
        lacking();
        probes();
        held();
        throwingDoesNothing();
        CHECK.end();
    }

    private static Desk desk(String name) {
        return new Desk(CHECK, name);
    }

    /** A routine that throws a fault of this kind at its end; places and dials are made for it. */
    private static Desk throwing(Desk desk, int kind) {
        switch (kind) {
            case 3: return desk.add(Desk.COUNT, 0, 0);
            case 4: return desk.add(Desk.MAKE, 1, 0).add(Desk.GET, 1, 0, 0);
            case 5: return desk.add(Desk.SET, 1, -8).add(Desk.MAKE, 1, 1);
            case 7: return desk.add(Desk.WHOLE, 3, 1, 0);
            case 8: return desk.add(Desk.SET, 1, 17 * 8).add(Desk.MAKE, 1, 1);
            case 9: return desk.add(Desk.THROW, 12);
            case 10: return desk.add(Desk.CALL, 3);
            default: return desk.add(Desk.TRY).add(Desk.THROW, 12).add(Desk.CATCH, 1).add(Desk.WRAP, 5).add(Desk.END);
        }
    }

    private static final int[] KINDS = {3, 4, 5, 7, 8, 9, 10, 11};

    /** For each kind the kinds that it is under. */
    private static boolean isUnder(int kind, int other) {
        int[][] under = {{}, {}, {}, {3, 2, 1}, {4, 2, 1}, {5, 2, 1}, {}, {7, 6, 1}, {8, 6, 1}, {9, 1}, {10, 1},
            {11, 9, 1}};
        for (int above : under[kind]) {
            if (above == other) {
                return true;
            }
        }
        return false;
    }

    private static void kindsUnder() {
        for (int kind : KINDS) {
            for (int other = 1; other <= 11; other++) {
                Desk desk = desk(kind + " under " + other).choose(3).add(Desk.TRY).choose(0).add(Desk.TRY);
                throwing(desk, kind).add(Desk.CATCH, other).add(Desk.NOTE, 7).add(Desk.END);
                desk.run(isUnder(kind, other) ? 0 : kind);
                desk.count(3, isUnder(kind, other) ? 1 : 0).count(5, 0)
                    .count(4, (kind == 11 ? 1 : 0) + (isUnder(kind, other) ? 1 : 0));
            }
        }
    }

    private static void firstCatchThatFits() {
        desk("the second CATCH").add(Desk.SET, 1, 8).add(Desk.SET, 2, 16).add(Desk.SET, 3, 24).add(Desk.TRY)
            .add(Desk.THROW, 0).add(Desk.CATCH, 2).add(Desk.NOTE, 1).add(Desk.CATCH, 9).add(Desk.NOTE, 2)
            .add(Desk.CATCH, 1).add(Desk.NOTE, 3).add(Desk.END).add(Desk.NOTE, 0).run(0).logs(2, 0);
        desk("the first of two").add(Desk.SET, 1, 8).add(Desk.TRY).add(Desk.THROW, 0).add(Desk.CATCH, 1)
            .add(Desk.NOTE, 1).add(Desk.CATCH, 9).add(Desk.NOTE, 0).add(Desk.END).run(0).logs(1);
        desk("the third CATCH").add(Desk.SET, 1, 8).add(Desk.TRY).add(Desk.THROW, 0).add(Desk.CATCH, 2).add(Desk.CATCH, 6)
            .add(Desk.CATCH, 9).add(Desk.NOTE, 1).add(Desk.FINALLY).add(Desk.NOTE, 0).add(Desk.END).run(0).logs(1, 0)
            .counts(10, 0, 5, 2, 1, 1);
        desk("none of three").add(Desk.TRY).add(Desk.THROW, 0).add(Desk.CATCH, 2).add(Desk.CATCH, 6).add(Desk.CATCH, 11)
            .add(Desk.FINALLY).add(Desk.NOTE, 0).add(Desk.END).run(9).logs(0).counts(8, 0, 3, 1, 0, 1);
        desk("none is thrown").add(Desk.TRY).add(Desk.SET, 1, 8).add(Desk.CATCH, 1).add(Desk.NOTE, 1).add(Desk.END)
            .run(0).logs().counts(5, 0, 2, 0, 0, 0);
        desk("a CATCH part does not catch its own").add(Desk.TRY).add(Desk.THROW, 1).add(Desk.CATCH, 9)
            .add(Desk.THROW, 2).add(Desk.CATCH, 1).add(Desk.NOTE, 0).add(Desk.END).run(9).faults(9, 3, 3, 2, 0, 3).logs();
        desk("the next TRY around catches it").add(Desk.TRY).add(Desk.TRY).add(Desk.THROW, 1).add(Desk.CATCH, 2)
            .add(Desk.NOTE, 0).add(Desk.END).add(Desk.NOTE, 0).add(Desk.CATCH, 9).add(Desk.TELL).add(Desk.END)
            .run(0).logs(9, 2, 2, 0);
        desk("a TRY without parts").add(Desk.TRY).add(Desk.TRY).add(Desk.END).add(Desk.THROW, 3).add(Desk.END).run(9);
    }

    private static void weights() {
        int[] due = {11, 1, 3, 101, 106, 13, 1, 2 * (1 + 13 + 5)};
        int[] places = {1, 2, 2, 1, 2, 1, 1, 4};
        for (int i = 0; i < KINDS.length; i++) {
            Desk desk = desk("weight of " + KINDS[i]).choose(3).add(Desk.TRY).choose(0).add(Desk.TRY);
            throwing(desk, KINDS[i]).add(Desk.CATCH, 1).add(Desk.TELL).add(Desk.AGAIN).add(Desk.END).run(KINDS[i]);
            int number = KINDS[i] == 9 ? 12 : KINDS[i] == 11 ? 5 : 0;
            int place = places[i];
            int earlier = KINDS[i] == 11 ? 1 : 0;
            desk.faults(KINDS[i], place, due[i], number, earlier, KINDS[i] == 11 ? 2 : place)
                .logs(KINDS[i], place, due[i], earlier);
            Desk wrapped = desk("weight of wrapped " + KINDS[i]).choose(3).add(Desk.TRY).choose(0).add(Desk.TRY);
            throwing(wrapped, KINDS[i]).add(Desk.CATCH, 1).add(Desk.WRAP, 9).add(Desk.END).run(11);
            wrapped.faults(11, place + (KINDS[i] == 11 ? 3 : 2), 2 * (1 + due[i] + 9), 9, earlier + 1,
                KINDS[i] == 11 ? 2 : place);
        }
    }

    /** Wraps as often as the routine says; the sixth WRAP throws TIRED, which may be wrapped again. */
    private static void wrapping() {
        for (int wraps = 1; wraps <= 6; wraps++) {
            Desk desk = desk(wraps + " wraps");
            wrap(desk, wraps);
            int weight = 8;
            for (int i = 1; i <= wraps; i++) {
                weight = 2 * (1 + weight + i);
            }
            int last = 4 * wraps - 1;
            if (wraps <= 5) {
                desk.run(11).faults(11, last, weight, wraps, wraps, wraps);
            } else {
                desk.run(10).faults(10, last, 1, 0, 0, last);
            }
        }
        Desk desk = desk("TIRED is wrapped").choose(1);
        wrap(desk, 6);
        desk.choose(0).add(Desk.TRY).add(Desk.CALL, 1).add(Desk.CATCH, 10).add(Desk.WRAP, 2).add(Desk.END).run(11)
            .faults(11, 3, 2 * (1 + 1 + 2), 2, 1, 40 + 23);
    }

    /** So many TRYs, one in the other, THROW 7, then for each a CATCH with a WRAP and an END. */
    private static void wrap(Desk desk, int wraps) {
        for (int i = 0; i < wraps; i++) {
            desk.add(Desk.TRY);
        }
        desk.add(Desk.THROW, 7);
        for (int i = 1; i <= wraps; i++) {
            desk.add(Desk.CATCH, 9).add(Desk.WRAP, i).add(Desk.END);
        }
    }

    private static void againStaysAsItIs() {
        desk("AGAIN").choose(1).add(Desk.NOTE, 0).add(Desk.THROW, 8).choose(0).add(Desk.TRY).add(Desk.TRY)
            .add(Desk.CALL, 1).add(Desk.CATCH, 9).add(Desk.AGAIN).add(Desk.CATCH, 1).add(Desk.END).add(Desk.CATCH, 9)
            .add(Desk.TELL).add(Desk.AGAIN).add(Desk.END).run(9).faults(9, 41, 9, 8, 0, 41).logs(0, 9, 41, 9, 0)
            .counts(11, 0, 8, 5, 2, 0);
    }

    private static void innermostCatchPart() {
        desk("the CATCH part around").add(Desk.TRY).add(Desk.THROW, 1).add(Desk.CATCH, 9)
            .add(Desk.TRY).add(Desk.TELL).add(Desk.THROW, 2).add(Desk.CATCH, 9).add(Desk.TELL)
            .add(Desk.FINALLY).add(Desk.TELL).add(Desk.END).add(Desk.TELL).add(Desk.LOOP, 1).add(Desk.TELL).add(Desk.END)
            .add(Desk.AGAIN).add(Desk.END).run(9).faults(9, 1)
            .logs(9, 1, 2, 0, 9, 5, 3, 0, 9, 1, 2, 0, 9, 1, 2, 0, 9, 1, 2, 0);
        desk("AGAIN of the outer one in an inner TRY").add(Desk.TRY).add(Desk.THROW, 1).add(Desk.CATCH, 9)
            .add(Desk.TRY).add(Desk.AGAIN).add(Desk.CATCH, 9).add(Desk.WRAP, 1).add(Desk.END).add(Desk.END).run(11)
            .faults(11, 6, 8, 1, 1, 1);
    }

    private static void finallyHoweverLeft() {
        desk("FINALLY at the end").add(Desk.SET, 1, 8).add(Desk.TRY).add(Desk.NOTE, 0).add(Desk.FINALLY).add(Desk.NOTE, 1)
            .add(Desk.END).add(Desk.NOTE, 0).run(0).logs(0, 1, 0).counts(7, 0, 5, 3, 0, 1);
        desk("FINALLY behind LEAVE").add(Desk.SET, 1, 8).add(Desk.LOOP, 3).add(Desk.TRY).add(Desk.LEAVE)
            .add(Desk.FINALLY).add(Desk.NOTE, 1).add(Desk.END).add(Desk.NOTE, 0).add(Desk.END).add(Desk.NOTE, 0).run(0)
            .logs(1, 0).counts(10, 0, 7, 2, 0, 1);
        desk("FINALLY behind RETURN").add(Desk.SET, 1, 8).add(Desk.TRY).add(Desk.TRY).add(Desk.RETURN).add(Desk.FINALLY)
            .add(Desk.NOTE, 1).add(Desk.END).add(Desk.NOTE, 0).add(Desk.FINALLY).add(Desk.NOTE, 1).add(Desk.END)
            .add(Desk.NOTE, 0).run(0).logs(1, 1).counts(12, 0, 6, 2, 0, 2);
        desk("FINALLY behind a fault").add(Desk.SET, 1, 8).add(Desk.TRY).add(Desk.THROW, 4).add(Desk.CATCH, 2)
            .add(Desk.FINALLY).add(Desk.NOTE, 1).add(Desk.END).add(Desk.NOTE, 0).run(9).logs(1).faults(9, 2, 5, 4, 0, 2)
            .counts(8, 0, 4, 1, 0, 1);
        desk("FINALLY behind a caught fault").add(Desk.SET, 1, 8).add(Desk.TRY).add(Desk.THROW, 4).add(Desk.CATCH, 9)
            .add(Desk.NOTE, 0).add(Desk.FINALLY).add(Desk.NOTE, 1).add(Desk.END).add(Desk.NOTE, 0).run(0).logs(0, 1, 0)
            .counts(9, 0, 6, 3, 1, 1);
        desk("FINALLY behind what a CATCH part does").add(Desk.SET, 1, 8).add(Desk.LOOP, 2).add(Desk.TRY)
            .add(Desk.THROW, 4).add(Desk.CATCH, 9).add(Desk.LEAVE).add(Desk.FINALLY).add(Desk.NOTE, 1).add(Desk.END)
            .add(Desk.END).add(Desk.TRY).add(Desk.THROW, 5).add(Desk.CATCH, 1).add(Desk.RETURN).add(Desk.FINALLY)
            .add(Desk.NOTE, 1).add(Desk.END).add(Desk.NOTE, 0).run(0).logs(1, 1).counts(18, 0, 11, 2, 2, 2);
        desk("an empty FINALLY").add(Desk.TRY).add(Desk.FINALLY).add(Desk.END).run(0).counts(3, 0, 1, 0, 0, 1);
    }

    private static void finallyForgets() {
        desk("a fault is forgotten").add(Desk.TRY).add(Desk.THROW, 1).add(Desk.FINALLY).add(Desk.THROW, 2).add(Desk.END)
            .run(9).faults(9, 3, 3, 2, 0, 3);
        desk("a RETURN is forgotten").add(Desk.TRY).add(Desk.TRY).add(Desk.RETURN).add(Desk.FINALLY).add(Desk.THROW, 2)
            .add(Desk.END).add(Desk.CATCH, 9).add(Desk.END).add(Desk.NOTE, 0).run(0).logs(0);
        desk("a LEAVE is forgotten").add(Desk.LOOP, 2).add(Desk.TRY).add(Desk.TRY).add(Desk.LEAVE).add(Desk.FINALLY)
            .add(Desk.THROW, 2).add(Desk.END).add(Desk.CATCH, 9).add(Desk.END).add(Desk.NOTE, 0).add(Desk.END).run(0)
            .logs(0, 0);
        desk("an AGAIN is forgotten").add(Desk.TRY).add(Desk.THROW, 1).add(Desk.CATCH, 9).add(Desk.AGAIN)
            .add(Desk.FINALLY).add(Desk.COUNT, 0, 0).add(Desk.END).run(3).faults(3, 5, 11, 0, 0, 5);
        desk("no CATCH of the same TRY").add(Desk.TRY).add(Desk.CATCH, 1).add(Desk.NOTE, 0).add(Desk.FINALLY)
            .add(Desk.THROW, 6).add(Desk.END).run(9).logs().counts(6, 0, 2, 0, 0, 1);
    }

    /** What is thrown and caught within a FINALLY part, or left there, leaves what went on before alone. */
    private static void finallyKeeps() {
        desk("a fault goes on").add(Desk.TRY).add(Desk.THROW, 1).add(Desk.FINALLY).add(Desk.TRY).add(Desk.THROW, 2)
            .add(Desk.CATCH, 9).add(Desk.TELL).add(Desk.END).add(Desk.LOOP, 3).add(Desk.LEAVE).add(Desk.END)
            .add(Desk.CALL, 1).add(Desk.END).add(Desk.NOTE, 0).choose(1).add(Desk.RETURN).choose(0).run(9)
            .faults(9, 1, 2, 1, 0, 1).logs(9, 4, 3, 0).counts(14, 0, 10, 4, 1, 1);
        desk("a RETURN goes on").add(Desk.TRY).add(Desk.RETURN).add(Desk.FINALLY).add(Desk.TRY).add(Desk.THROW, 2)
            .add(Desk.CATCH, 9).add(Desk.END).add(Desk.END).add(Desk.NOTE, 0).run(0).logs().noFault();
        desk("nothing goes on").add(Desk.TRY).add(Desk.FINALLY).add(Desk.TRY).add(Desk.THROW, 2)
            .add(Desk.CATCH, 9).add(Desk.END).add(Desk.END).add(Desk.NOTE, 0).run(0).logs(0).noFault();
    }

    private static void loops() {
        for (int rounds = 0; rounds <= 6; rounds++) {
            desk(rounds + " rounds").add(Desk.SET, 1, 8).add(Desk.LOOP, rounds).add(Desk.FINE, 0, 0, 1).add(Desk.END)
                .run(0).dial(0, rounds).counts(4, 0, 2 + 2 * rounds);
        }
        desk("LEAVE of the inner LOOP").add(Desk.LOOP, 2).add(Desk.LOOP, 6).add(Desk.IF, 0, 1, 0).add(Desk.LEAVE)
            .add(Desk.END).add(Desk.THROW, 1).add(Desk.END).add(Desk.NOTE, 0).add(Desk.END).run(0).logs(0, 0)
            .counts(9, 0, 1 + 2 * 6);
        desk("a fault leaves LOOPs").add(Desk.TRY).add(Desk.LOOP, 2).add(Desk.LOOP, 2).add(Desk.THROW, 1).add(Desk.END)
            .add(Desk.NOTE, 0).add(Desk.END).add(Desk.CATCH, 1).add(Desk.END).add(Desk.NOTE, 0).run(0).logs(0);
    }

    private static void ifs() {
        double[] left = {1, 2, 3};
        boolean[][] due = {{true, false, false}, {false, true, false}, {true, false, true}, {false, true, true}};
        for (int how = 0; how < 4; how++) {
            for (int i = 0; i < 3; i++) {
                desk("IF " + left[i] + " " + how).add(Desk.SET, 1, (int) (8 * left[i])).add(Desk.SET, 2, 16)
                    .add(Desk.IF, 1, how, 2).add(Desk.NOTE, 1).add(Desk.END).add(Desk.NOTE, 2).run(0)
                    .logs(due[how][i] ? new double[] {left[i], 2} : new double[] {2})
                    .counts(6, 0, due[how][i] ? 5 : 4);
            }
        }
        desk("-0 is like 0").add(Desk.SET, 1, -8).add(Desk.FINE, 2, 1, 0).add(Desk.IF, 1, 1, 0).add(Desk.NOTE, 1)
            .add(Desk.END).add(Desk.IF, 1, 0, 0).add(Desk.NOTE, 0).add(Desk.END).run(0).logs(-0.0);
    }

    private static void returns() {
        desk("RETURN of the run").add(Desk.NOTE, 0).add(Desk.LOOP, 3).add(Desk.IF, 0, 1, 0).add(Desk.RETURN).add(Desk.END)
            .add(Desk.END).add(Desk.NOTE, 0).run(0).logs(0).counts(7, 0, 5);
        desk("RETURN of a called one").choose(2).add(Desk.LOOP, 2).add(Desk.RETURN).add(Desk.END).add(Desk.NOTE, 0)
            .choose(0).add(Desk.LOOP, 2).add(Desk.CALL, 2).add(Desk.NOTE, 1).add(Desk.END).run(0).logs(0, 0)
            .counts(4, 0, 1 + 2 * 6);
    }

    private static void calls() {
        desk("CALL").choose(3).add(Desk.SET, 4, 8).add(Desk.THROW, 9).choose(1).add(Desk.NOTE, 4).add(Desk.TRY)
            .add(Desk.CALL, 3).add(Desk.NOTE, 0).add(Desk.FINALLY).add(Desk.NOTE, 4).add(Desk.END).run(9)
            .logs(0, 1).faults(9, 121, 10, 9, 0, 121).dial(4, 1);
        desk("CALL of none").add(Desk.CALL, 1).add(Desk.NOTE, 0).run(0).logs(0).counts(2, 0, 2);
        desk("CALL of one with an open block").choose(2).add(Desk.NOTE, 0).add(Desk.LOOP, 1).choose(0).add(Desk.NOTE, 0)
            .add(Desk.CALL, 2).run(10).logs(0).faults(10, 1, 1, 0, 0, 1).counts(2, 0, 2);
        desk("what is caught by the one around").choose(1).add(Desk.TRY).add(Desk.THROW, 2).add(Desk.CATCH, 3)
            .add(Desk.END).choose(0).add(Desk.TRY).add(Desk.CALL, 1).add(Desk.CATCH, 9).add(Desk.TELL).add(Desk.END)
            .run(0).logs(9, 41, 3, 0);
    }

    private static void callsAtMost() {
        desk("CALL of itself").add(Desk.NOTE, 0).add(Desk.CALL, 0).run(10).faults(10, 1, 1, 0, 0, 1).logs(0, 0, 0, 0, 0)
            .counts(2, 0, 10);
        desk("4 CALLS").add(Desk.CALL, 1).choose(1).add(Desk.CALL, 2).choose(2).add(Desk.CALL, 3).choose(3)
            .add(Desk.TRY).add(Desk.CALL, 0).add(Desk.CATCH, 10).add(Desk.TELL).add(Desk.END).choose(0).run(0)
            .logs(10, 0, 1, 0).choose(1).run(0).logs(10, 40, 1, 0).choose(3).run(0).logs(10, 121, 1, 0);
        desk("CALLS one behind the other").add(Desk.LOOP, 6).add(Desk.CALL, 1).add(Desk.CALL, 1).add(Desk.END).run(0)
            .counts(4, 0, 19);
    }

    /** These count 4 and 6 * 32: 4 more can be counted. */
    private static Desk of196(Desk desk) {
        desk.add(Desk.SET, 1, 8).add(Desk.SET, 1, 8).add(Desk.SET, 1, 8).add(Desk.LOOP, 6);
        for (int i = 0; i < 31; i++) {
            desk.add(Desk.FINE, 0, 0, 1);
        }
        return desk.add(Desk.END);
    }

    private static void tired() {
        of196(desk("199 steps")).add(Desk.NOTE, 0).add(Desk.NOTE, 1).add(Desk.RETURN).run(0).counts(39, 0, 199);
        of196(desk("200 steps")).add(Desk.NOTE, 0).add(Desk.NOTE, 1).add(Desk.NOTE, 1).add(Desk.RETURN).run(0)
            .counts(40, 0, 200).noFault();
        Desk desk = desk("201 steps").choose(1).add(Desk.NOTE, 0).add(Desk.NOTE, 0).choose(0);
        of196(desk).add(Desk.NOTE, 0).add(Desk.CALL, 1).add(Desk.NOTE, 0).add(Desk.NOTE, 0).run(10).logs(186, 186, 186)
            .counts(40, 0, 200, 3).faults(10, 38, 1, 0, 0, 38);
        desk.run(10).counts(40, 0, 200, 3).logs(372, 372, 372);
        desk.choose(1).run(0).counts(2, 0, 2).noFault();
    }

    /** Where 200 are counted, parts are begun and faults are caught, but no step of theirs is done. */
    private static void tiredAndTries() {
        Desk desk = desk("TIRED is caught").choose(2);
        of196(desk).choose(1).add(Desk.CALL, 2).add(Desk.NOTE, 0).add(Desk.NOTE, 0).choose(0);
        desk.add(Desk.TRY).add(Desk.CALL, 1).add(Desk.NOTE, 0).add(Desk.CATCH, 10).add(Desk.NOTE, 7).add(Desk.CATCH, 1)
            .add(Desk.FINALLY).add(Desk.NOTE, 7).add(Desk.END).run(10).counts(9, 0, 200, 1, 1, 1)
            .faults(10, 7, 1, 0, 0, 7).logs(186);
        Desk empty = desk("TIRED is caught by an empty part").choose(2);
        of196(empty).choose(0).add(Desk.TRY).add(Desk.CALL, 2).add(Desk.LOOP, 6).add(Desk.END).add(Desk.LOOP, 6)
            .add(Desk.NOTE, 0).add(Desk.END).add(Desk.CATCH, 10).add(Desk.FINALLY).add(Desk.END).run(0)
            .counts(10, 0, 200, 0, 1, 1).noFault();
        Desk own = desk("a TRY that is not begun catches nothing").choose(2);
        of196(own).choose(0).add(Desk.CALL, 2).add(Desk.NOTE, 0).add(Desk.NOTE, 0).add(Desk.NOTE, 0).add(Desk.TRY)
            .add(Desk.NOTE, 0).add(Desk.CATCH, 1).add(Desk.FINALLY).add(Desk.END).run(10).counts(9, 0, 200, 3, 0, 0)
            .faults(10, 4);
    }

    private static void roundsAreCounted() {
        Desk desk = desk("TIRED by a round");
        of196(desk).add(Desk.LOOP, 4).add(Desk.END).run(10).faults(10, 36).counts(38, 0, 200);
        Desk fits = desk("rounds that fit");
        of196(fits).add(Desk.LOOP, 3).add(Desk.END).run(0).counts(38, 0, 200);
        Desk inner = desk("TIRED by a round goes out of its LOOP").choose(1);
        of196(inner).choose(0).add(Desk.CALL, 1).add(Desk.TRY).add(Desk.LOOP, 6).add(Desk.TRY).add(Desk.CATCH, 1)
            .add(Desk.END).add(Desk.END).add(Desk.CATCH, 10).add(Desk.END).run(0).counts(9, 0, 200, 0, 1);
    }

    private static void made() {
        for (int w = 0; w < 18; w++) {
            Desk desk = desk("MAKE " + w).add(Desk.SET, 0, 17 * 8 - 1).add(Desk.MAKE, w, 0).add(Desk.COUNT, w, 1).add(Desk.SET, 0, 8 * 17)
                .add(Desk.MAKE, w, 0).run(8).faults(8, 4, 106).size(w, 16).dial(1, 16);
            desk.clear().add(Desk.SET, 0, -8).add(Desk.MAKE, w, 0).run(5).faults(5, 1, 3).size(w, 16);
            desk.clear().add(Desk.SET, 0, -7).add(Desk.MAKE, w, 0).add(Desk.COUNT, w, 1).run(0).size(w, 0).dial(1, 0);
            desk.clear().add(Desk.SET, 0, Integer.MIN_VALUE).add(Desk.FINE, 2, 0, 7).add(Desk.MAKE, w, 0).run(0);
            desk.clear().add(Desk.DROP, w).add(Desk.DROP, w).add(Desk.COUNT, w, 1).run(3).faults(3, 2, 11).size(w, -1);
        }
        desk("far beyond an int").add(Desk.SET, 0, Integer.MAX_VALUE).add(Desk.FINE, 2, 0, 0).run(8).clear()
            .add(Desk.SET, 1, 1 << 27).add(Desk.FINE, 2, 0, 1).add(Desk.MAKE, 3, 0).run(8).clear()
            .add(Desk.SET, 1, -8).add(Desk.FINE, 2, 0, 1).add(Desk.MAKE, 3, 0).run(5).size(3, -1);
        desk("a new row is empty").add(Desk.SET, 0, 16).add(Desk.SET, 1, 8).add(Desk.MAKE, 15, 0).add(Desk.MAKE, 17, 0)
            .add(Desk.PUT, 15, 1, 0).add(Desk.FIT, 17, 1).add(Desk.PUT, 17, 1, 0).run(0).value(15, 1, 2).value(17, 1, 2)
            .clear().add(Desk.MAKE, 15, 0).add(Desk.MAKE, 17, 0).run(0).value(15, 1, 0).value(17, 1, 0)
            .fitted(17, 1, false).size(15, 2).size(17, 2);
        desk("a new row is empty at its ends").add(Desk.SET, 0, 16 * 8).add(Desk.SET, 2, 15 * 8).add(Desk.MAKE, 15, 0)
            .add(Desk.MAKE, 16, 0).add(Desk.PUT, 15, 1, 0).add(Desk.PUT, 15, 2, 0).add(Desk.FIT, 16, 1)
            .add(Desk.FIT, 16, 2).run(0).value(15, 0, 16).value(15, 15, 16).fitted(16, 0, true).fitted(16, 15, true)
            .clear().add(Desk.MAKE, 15, 0).add(Desk.MAKE, 16, 0).run(0).value(15, 0, 0).value(15, 15, 0)
            .fitted(16, 0, false).fitted(16, 15, false);
    }

    private static void lacking() {
        for (int w = 0; w < 18; w++) {
            for (int what : new int[] {Desk.GET, Desk.PUT, Desk.FIT}) {
                if (what == Desk.FIT && w < 16) {
                    continue;
                }
                desk(what + " lacks row " + w).add(Desk.SET, 0, -8).add(what, w, 0, 1).run(3).faults(3, 1, 11);
                desk(what + " lacks a place below of " + w).add(Desk.SET, 0, 16).add(Desk.MAKE, w, 0).add(Desk.SET, 0, -8)
                    .add(what, w, 0, 1).run(4).faults(4, 3, 1);
                desk(what + " lacks a place above of " + w).add(Desk.SET, 0, 16).add(Desk.MAKE, w, 0)
                    .add(what, w, 0, 1).run(4).faults(4, 2, 1);
                Desk desk = desk(what + " cuts off the place of " + w).add(Desk.SET, 0, 16).add(Desk.SET, 1, 8)
                    .add(Desk.MAKE, w, 0).add(Desk.SET, 0, 15);
                desk.add(what, w, 0, 1).run(w >= 16 && what != Desk.FIT ? 3 : 0).clear().add(Desk.SET, 0, -7);
                desk.add(what, w, 0, 1).run(w >= 16 && what != Desk.FIT ? 3 : 0);
            }
        }
    }

    private static void probes() {
        desk("probes").add(Desk.SET, 0, 16).add(Desk.SET, 1, 8).add(Desk.SET, 2, 5).add(Desk.MAKE, 16, 0)
            .add(Desk.FIT, 16, 1).add(Desk.GET, 16, 1, 3).add(Desk.NOTE, 3).add(Desk.PUT, 16, 1, 2)
            .add(Desk.GET, 16, 1, 3).add(Desk.NOTE, 3).add(Desk.FIT, 16, 1).add(Desk.GET, 16, 1, 3).add(Desk.NOTE, 3)
            .add(Desk.PUT, 16, 7, 2).run(3).faults(3, 13, 11).logs(0, 0.625, 0).fitted(16, 1, true).fitted(16, 0, false)
            .fitted(17, 1, false);
    }

    /** What is put as each kind: 1e15, a number beyond 2 to the 16th, a fraction, -0, a tiny one. */
    private static void held() {
        double tiny = 1 / 1e15 / 1e15 / 1e15 / 1e15;
        double[][] due = {
            {1, 1, 1, 0, 1}, {-1, 17, 0, 0, 0}, {65535, 17, 0, 0, 0}, {-1, 17, 0, 0, 0}, {2147483647, 65553, 0, 0, 0},
            {1e15, 65553, 0, 0, 0}, {999999986991104.0, 65553.875, -0.125, -0.0, 0}, {1e15, 65553.875, -0.125, -0.0, tiny},
            {1e15, 65553.875, -0.125, -0.0, tiny}};
        for (int w = 0; w < 18; w++) {
            Desk desk = desk("held by " + w).turn(1, 1e15).turn(2, 65553.875).turn(3, -0.125).turn(4, -0.0).turn(5, tiny)
                .add(Desk.SET, 0, 8).add(Desk.MAKE, w, 0).add(Desk.SET, 0, 0);
            if (w >= 16) {
                desk.add(Desk.FIT, w, 0);
            }
            for (int i = 1; i <= 5; i++) {
                desk.add(Desk.PUT, w, 0, i).add(Desk.GET, w, 0, 7).add(Desk.NOTE, 7);
            }
            desk.run(0).logs(due[w / 2]).value(w, 0, due[w / 2][4]);
        }
        desk("held as a byte").steps("SET 0 8, MAKE 2 0, SET 0 0, SET 1 -1032, PUT 2 0 1").run(0).value(2, 0, 127);
    }

    private static void throwingDoesNothing() {
        desk("nothing else").add(Desk.SET, 1, 80000).add(Desk.FINE, 2, 1, 1).add(Desk.TRY).add(Desk.FINE, 2, 1, 1)
            .add(Desk.CATCH, 8).add(Desk.END).add(Desk.NOTE, 1).add(Desk.TRY).add(Desk.FINE, 4, 1, 0).add(Desk.CATCH, 7)
            .add(Desk.END).add(Desk.NOTE, 1).add(Desk.SET, 2, 8).add(Desk.TRY).add(Desk.COUNT, 0, 2).add(Desk.CATCH, 3)
            .add(Desk.END).add(Desk.NOTE, 2).add(Desk.TRY).add(Desk.GET, 0, 0, 2).add(Desk.CATCH, 3).add(Desk.END)
            .add(Desk.NOTE, 2).run(0).logs(1e8, 1e8, 1, 1);
    }
}
