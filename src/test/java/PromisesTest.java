/** What the calls of the face answer: ordinary inputs, the edges that are named, wrong inputs. */
public final class PromisesTest {
    private static final Check CHECK = new Check("promises");
    private static final int[] WRONG = {-1, Integer.MIN_VALUE, Integer.MAX_VALUE};

    public static void main(String[] args) {
        newObject();
        choose();
        stepsWithWrongArguments();
        unnamedArguments();
        ends();
        parts();
        leaves();
        returns();
        stepsOfCatchParts();
        blocksAtMost();
        stepsAtMost();
        clear();
        run();
        dial();
        rows();
        log();
        count();
        fault();
        CHECK.end();
    }

    private static Desk desk(String name) {
        return new Desk(CHECK, name);
    }

    private static void newObject() {
        Desk desk = desk("new object").counts(0, 0, 0, 0, 0, 0).noFault().logs();
        for (int d = 0; d < 8; d++) {
            desk.dial(d, 0);
        }
        for (int w = 0; w < 18; w++) {
            desk.size(w, -1).value(w, 0, 0).fitted(w, 0, false);
        }
        for (int r = 3; r >= 0; r--) {
            desk.choose(r);
        }
        desk("routine 0 is at hand").add(Desk.THROW, 1).run(9).faults(9, 0);
    }

    private static void choose() {
        Desk desk = desk("choose").choose(3).add(Desk.THROW, 5).add(Desk.NOTE, 0).choose(1).add(Desk.NOTE, 0);
        desk.choose(3);
        for (int wrong : new int[] {-1, 4, Integer.MIN_VALUE, Integer.MAX_VALUE}) {
            desk.choose(wrong);
        }
        desk.counts(2).run(9).faults(9, 120, 6, 5, 0, 120);
        desk.choose(1).counts(1).choose(0).counts(0);
    }

    /** Each argument that is named: its least, its most, and those right beyond. */
    private static void stepsWithWrongArguments() {
        for (int what : new int[] {-1, 25, Integer.MIN_VALUE, Integer.MAX_VALUE}) {
            desk("what").refuse(-1, what, 0, 0, 0);
        }
        bounds(Desk.CATCH, 0, 1, 11, 1);
        bounds(Desk.LOOP, 0, 0, 6, 0);
        bounds(Desk.THROW, 0, 0, 99, 0);
        bounds(Desk.WRAP, 0, 0, 99, 0);
        bounds(Desk.IF, 0, 0, 7, 0, 0, 0);
        bounds(Desk.IF, 1, 0, 3, 0, 0, 0);
        bounds(Desk.IF, 2, 0, 7, 0, 0, 0);
        bounds(Desk.CALL, 0, 0, 3, 0);
        bounds(Desk.MAKE, 0, 0, 17, 0, 0);
        bounds(Desk.MAKE, 1, 0, 7, 0, 0);
        bounds(Desk.DROP, 0, 0, 17, 0);
        bounds(Desk.COUNT, 0, 0, 17, 0, 0);
        bounds(Desk.COUNT, 1, 0, 7, 0, 0);
        for (int what : new int[] {Desk.GET, Desk.PUT}) {
            bounds(what, 0, 0, 17, 0, 0, 0);
            bounds(what, 1, 0, 7, 0, 0, 0);
            bounds(what, 2, 0, 7, 0, 0, 0);
        }
        bounds(Desk.FIT, 0, 16, 17, 16, 0);
        bounds(Desk.FIT, 1, 0, 7, 16, 0);
        bounds(Desk.SET, 0, 0, 7, 0, 0);
        bounds(Desk.NOTE, 0, 0, 7, 0);
        for (int what = Desk.FINE; what <= Desk.WIDE; what++) {
            bounds(what, 0, 0, what <= Desk.ROUGH ? 13 : 7, 0, 0, 0);
            bounds(what, 1, 0, 7, 0, 0, 0);
            bounds(what, 2, 0, 7, 0, 0, 0);
        }
    }

    private static void bounds(int what, int which, int least, int most, int... arguments) {
        Desk desk = desk("argument " + which + " of " + what).steps("TRY, CATCH 1");
        for (int wrong : new int[] {least - 1, most + 1, Integer.MIN_VALUE, Integer.MAX_VALUE}) {
            int[] changed = arguments.clone();
            changed[which] = wrong;
            desk.refuse(-1, what, changed);
        }
        for (int right : new int[] {least, most}) {
            int[] changed = arguments.clone();
            changed[which] = right;
            desk.add(what, changed);
        }
    }

    /** Desk gives wild numbers for arguments that are not named, so these are taken. */
    private static void unnamedArguments() {
        desk("unnamed").add(Desk.LOOP, 1).add(Desk.TRY).add(Desk.THROW, 1).add(Desk.LEAVE).add(Desk.RETURN)
            .add(Desk.CATCH, 1).add(Desk.AGAIN).add(Desk.WRAP, 3).add(Desk.TELL).add(Desk.FINALLY).add(Desk.END)
            .add(Desk.END).add(Desk.CALL, 2).add(Desk.MAKE, 0, 0).add(Desk.DROP, 0).add(Desk.COUNT, 0, 0)
            .add(Desk.FIT, 16, 0).add(Desk.NOTE, 0).add(Desk.SET, 0, Integer.MIN_VALUE)
            .add(Desk.SET, 0, Integer.MAX_VALUE).counts(20, 0);
    }

    private static void ends() {
        Desk desk = desk("END").refuse(-2, Desk.END).add(Desk.NOTE, 0).refuse(-2, Desk.END);
        for (int what : new int[] {Desk.TRY, Desk.LOOP, Desk.IF}) {
            desk.add(what, 0, 0, 0).count(1, 1).add(Desk.END).count(1, 0).refuse(-2, Desk.END);
        }
    }

    private static void parts() {
        desk("parts without a block").refuse(-2, Desk.CATCH, 1).refuse(-2, Desk.FINALLY).refuse(-1, Desk.CATCH, 0);
        desk("parts behind a block").add(Desk.TRY).add(Desk.END).refuse(-2, Desk.CATCH, 1).refuse(-2, Desk.FINALLY);
        desk("parts in a LOOP").add(Desk.TRY).add(Desk.LOOP, 1).refuse(-2, Desk.CATCH, 1).refuse(-2, Desk.FINALLY)
            .add(Desk.END).add(Desk.CATCH, 1).add(Desk.FINALLY);
        desk("parts in an IF").add(Desk.TRY).add(Desk.IF, 0, 0, 0).refuse(-2, Desk.CATCH, 1).refuse(-2, Desk.FINALLY)
            .add(Desk.END).add(Desk.FINALLY);
        desk("parts at most").add(Desk.TRY).add(Desk.CATCH, 1).add(Desk.CATCH, 1).add(Desk.CATCH, 1)
            .refuse(-2, Desk.CATCH, 1).refuse(-1, Desk.CATCH, 12).add(Desk.FINALLY).refuse(-2, Desk.FINALLY)
            .refuse(-2, Desk.CATCH, 1).add(Desk.END);
        desk("CATCH behind FINALLY").add(Desk.TRY).add(Desk.FINALLY).refuse(-2, Desk.CATCH, 1).refuse(-2, Desk.FINALLY);
        desk("parts of the inner TRY alone count").add(Desk.TRY).add(Desk.CATCH, 1).add(Desk.CATCH, 1).add(Desk.CATCH, 1)
            .add(Desk.TRY).add(Desk.CATCH, 2).add(Desk.CATCH, 2).add(Desk.CATCH, 2).refuse(-2, Desk.CATCH, 1)
            .add(Desk.FINALLY).add(Desk.END).refuse(-2, Desk.CATCH, 1).add(Desk.FINALLY).add(Desk.END)
            .add(Desk.TRY).add(Desk.CATCH, 1).add(Desk.CATCH, 1).add(Desk.CATCH, 1).refuse(-2, Desk.CATCH, 1);
    }

    private static void leaves() {
        desk("LEAVE without a LOOP").refuse(-2, Desk.LEAVE).add(Desk.TRY).refuse(-2, Desk.LEAVE)
            .add(Desk.IF, 0, 0, 0).refuse(-2, Desk.LEAVE);
        desk("LEAVE behind a LOOP").add(Desk.LOOP, 1).add(Desk.END).refuse(-2, Desk.LEAVE);
        desk("LEAVE in parts").add(Desk.LOOP, 1).add(Desk.LEAVE).add(Desk.IF, 0, 0, 0).add(Desk.LEAVE)
            .add(Desk.TRY).add(Desk.LEAVE).add(Desk.CATCH, 1).add(Desk.LEAVE).add(Desk.FINALLY)
            .refuse(-2, Desk.LEAVE).add(Desk.TRY).refuse(-2, Desk.LEAVE).add(Desk.LOOP, 1).add(Desk.LEAVE).add(Desk.END)
            .refuse(-2, Desk.LEAVE).add(Desk.END).add(Desk.END).add(Desk.LEAVE);
        desk("LEAVE of a LOOP in FINALLY").add(Desk.TRY).add(Desk.FINALLY).refuse(-2, Desk.LEAVE).add(Desk.LOOP, 1)
            .add(Desk.LEAVE).add(Desk.TRY).add(Desk.LEAVE).add(Desk.FINALLY).refuse(-2, Desk.LEAVE);
    }

    private static void returns() {
        desk("RETURN").add(Desk.RETURN).add(Desk.TRY).add(Desk.RETURN).add(Desk.CATCH, 1).add(Desk.RETURN)
            .add(Desk.FINALLY).refuse(-2, Desk.RETURN).add(Desk.LOOP, 2).refuse(-2, Desk.RETURN)
            .add(Desk.TRY).refuse(-2, Desk.RETURN).add(Desk.CATCH, 1).refuse(-2, Desk.RETURN).add(Desk.END)
            .add(Desk.END).refuse(-2, Desk.RETURN).add(Desk.END).add(Desk.RETURN);
    }

    private static void stepsOfCatchParts() {
        for (int what : new int[] {Desk.AGAIN, Desk.WRAP, Desk.TELL}) {
            desk("CATCH part " + what).refuse(-2, what, 0).add(Desk.TRY).refuse(-2, what, 0).add(Desk.CATCH, 1)
                .add(what, 0).add(Desk.LOOP, 0).add(what, 0).add(Desk.TRY).add(what, 0).add(Desk.FINALLY).add(what, 0)
                .add(Desk.END).add(Desk.END).add(Desk.CATCH, 2).add(what, 0).add(Desk.FINALLY).refuse(-2, what, 0)
                .add(Desk.TRY).refuse(-2, what, 0).add(Desk.CATCH, 1).add(what, 0).add(Desk.END).refuse(-2, what, 0)
                .add(Desk.END).refuse(-2, what, 0);
        }
        desk("WRAP's number comes first").refuse(-1, Desk.WRAP, 100).refuse(-2, Desk.WRAP, 99);
    }

    private static void blocksAtMost() {
        Desk desk = desk("blocks");
        int[] blocks = {Desk.TRY, Desk.LOOP, Desk.IF, Desk.TRY, Desk.LOOP, Desk.IF};
        for (int i = 0; i < 6; i++) {
            desk.add(blocks[i], 1, 1, 1).counts(i + 1, i + 1);
        }
        desk.refuse(-2, Desk.TRY).refuse(-2, Desk.LOOP, 1).refuse(-2, Desk.IF, 0, 0, 0).refuse(-1, Desk.LOOP, 7);
        desk.add(Desk.END).counts(7, 5).add(Desk.TRY).refuse(-2, Desk.TRY).add(Desk.NOTE, 0);
    }

    private static void stepsAtMost() {
        Desk desk = desk("40 steps");
        for (int i = 0; i < 39; i++) {
            desk.add(Desk.NOTE, 0);
        }
        desk.add(Desk.TRY).refuse(-3, Desk.NOTE, 0).refuse(-3, Desk.END).refuse(-3, Desk.CATCH, 1)
            .refuse(-3, Desk.TRY).refuse(-2, Desk.LEAVE).refuse(-2, Desk.TELL).refuse(-1, Desk.NOTE, 8)
            .refuse(-1, 25).counts(40, 1).run(-1);
        desk.choose(1).add(Desk.NOTE, 0);
    }

    private static void clear() {
        Desk desk = desk("clear");
        desk.clear();
        desk.add(Desk.SET, 3, 12).add(Desk.SET, 0, 8).add(Desk.MAKE, 4, 0).add(Desk.NOTE, 3).run(0);
        desk.add(Desk.TRY).add(Desk.CATCH, 1).add(Desk.TRY).add(Desk.FINALLY).choose(2).add(Desk.NOTE, 0).choose(0);
        desk.counts(8, 2).clear().clear().counts(0, 0, 4, 1).logs(1.5).dial(3, 1.5).size(4, 1);
        desk.refuse(-2, Desk.END).refuse(-2, Desk.CATCH, 1).refuse(-2, Desk.TELL).add(Desk.RETURN).run(0);
        desk.choose(2).counts(1);
        // Nothing of the routine that was there before shows in the next one.
        desk.choose(0).clear().add(Desk.TRY).add(Desk.THROW, 4).add(Desk.END).add(Desk.NOTE, 3).run(9).logs();
    }

    private static void run() {
        desk("run of none").run(0).counts(0, 0, 0, 0, 0, 0).noFault();
        Desk desk = desk("run").add(Desk.SET, 1, 8).add(Desk.NOTE, 1).add(Desk.THROW, 7).run(9)
            .counts(3, 0, 3, 1).faults(9, 2, 8, 7, 0, 2).logs(1);
        desk.add(Desk.IF, 0, 0, 0).run(-1).counts(4, 1, 3, 1).faults(9, 2, 8, 7, 0, 2).logs(1)
            .add(Desk.END).run(9);
        desk.choose(1).run(0).counts(0, 0, 0, 0, 0, 0).noFault().logs();
        // Each kind of fault that can come out of a run.
        int[][] throwing = {{Desk.COUNT, 0, 0}, {Desk.GET, 16, 1, 0}, {Desk.MAKE, 2, 2}, {Desk.FINE, 3, 0, 0},
            {Desk.MAKE, 3, 3}, {Desk.THROW, 0}, {Desk.CALL, 3}};
        int[] kinds = {3, 4, 5, 7, 8, 9, 10};
        for (int i = 0; i < kinds.length; i++) {
            int[] last = throwing[i];
            desk("run to kind " + kinds[i]).choose(3).add(Desk.TRY).choose(0).add(Desk.SET, 1, 0).add(Desk.MAKE, 16, 1)
                .add(Desk.SET, 2, -8).add(Desk.SET, 3, 17 * 8)
                .add(last[0], java.util.Arrays.copyOfRange(last, 1, last.length)).add(Desk.NOTE, 0)
                .run(kinds[i]).faults(kinds[i], 4).counts(6, 0, 5, 0);
        }
    }

    private static void dial() {
        Desk desk = desk("dial");
        for (int d = 0; d < 8; d++) {
            desk.add(Desk.SET, d, d + 1);
        }
        desk.run(0);
        for (int d = 0; d < 8; d++) {
            desk.dial(d, (d + 1) / 8.0);
        }
        desk.dial(-1, 0).dial(8, 0).dial(Integer.MIN_VALUE, 0).dial(Integer.MAX_VALUE, 0);
        desk.clear().add(Desk.SET, 0, Integer.MAX_VALUE).add(Desk.SET, 1, Integer.MIN_VALUE).add(Desk.SET, 2, -1)
            .add(Desk.SET, 3, 7).run(0).dial(0, 268435455.875).dial(1, -268435456).dial(2, -0.125).dial(3, 0.875);
        desk.clear().run(0).dial(3, 0.875);
    }

    private static void rows() {
        Desk desk = desk("rows").add(Desk.SET, 0, 16 * 8).add(Desk.SET, 1, 0).add(Desk.SET, 2, 15 * 8)
            .add(Desk.SET, 3, -12);
        for (int w = 0; w < 16; w++) {
            desk.add(Desk.MAKE, w, 0).add(Desk.PUT, w, 2, 3);
        }
        desk.add(Desk.MAKE, 16, 0).add(Desk.MAKE, 17, 1).add(Desk.FIT, 16, 2).run(0);
        double[] held = {1, -1, 65535, -1, -1, -1, -1.5, -1.5};
        for (int w = 0; w < 16; w++) {
            desk.size(w, 16).value(w, 15, held[w / 2]).value(w, 14, 0).value(w, 0, 0).value(w, 16, 0)
                .value(w, -1, 0).fitted(w, 15, false);
        }
        desk.size(16, 16).size(17, 0).fitted(16, 15, true).fitted(16, 14, false).fitted(16, 16, false)
            .fitted(17, 0, false).fitted(17, -1, false).value(16, 15, 0).value(17, 0, 0);
        for (int wrong : new int[] {-1, 18, Integer.MIN_VALUE, Integer.MAX_VALUE}) {
            desk.size(wrong, -2).value(wrong, 0, 0).fitted(wrong, 0, false);
            desk.value(0, wrong, 0).fitted(16, wrong, false).value(16, wrong, 0);
        }
        desk.clear().add(Desk.PUT, 16, 2, 3).run(0).value(16, 15, -1.5).fitted(16, 15, true);
        desk.clear().add(Desk.DROP, 16).add(Desk.DROP, 5).run(0).size(16, -1).fitted(16, 15, false).value(16, 15, 0)
            .size(5, -1).value(5, 15, 0).size(4, 16);
    }

    private static void log() {
        Desk desk = desk("log").add(Desk.SET, 1, -4).add(Desk.NOTE, 0).add(Desk.NOTE, 1).add(Desk.FINE, 2, 1, 0)
            .add(Desk.NOTE, 1).add(Desk.SET, 2, 3).add(Desk.NOTE, 2).run(0).logs(0, -0.5, -0.0, 0.375);
        for (int wrong : WRONG) {
            desk.log(wrong, 0).minus(wrong, false);
        }
        desk.clear().add(Desk.NOTE, 2).run(0).logs(0.375).clear().run(0).logs();
        desk.log(1, 0).minus(1, false).clear().add(Desk.LOOP, 6).add(Desk.LOOP, 6).add(Desk.LOOP, 6).add(Desk.NOTE, 2).add(Desk.END).add(Desk.END)
            .add(Desk.END).run(10);
        // A LOOP; each round of it: 1 and a LOOP; of that: 1 and a LOOP of 6 rounds and NOTEs, so 14.
        // 1 + 2 * 86 are two rounds; then 2, one round of 14, and 11: round, LOOP, 4 NOTEs and a round.
        desk.counts(7, 0, 200, 2 * 36 + 6 + 4).log(2 * 36 + 6 + 3, 0.375);
        tellMuch();
    }

    /** A long log: 5 steps and rounds come first, then 195 are left for rounds of 32 TELLs. */
    private static void tellMuch() {
        Desk desk = desk("much told").add(Desk.TRY).add(Desk.THROW, 1).add(Desk.CATCH, 1).add(Desk.LOOP, 6)
            .add(Desk.LOOP, 6);
        for (int i = 0; i < 32; i++) {
            desk.add(Desk.TELL);
        }
        desk.add(Desk.END).add(Desk.END).add(Desk.END).run(10).counts(40, 0, 200, 4 * 189, 1, 0);
        desk.log(752, 9).log(754, 2).faults(10, 34);
    }

    private static void count() {
        Desk desk = desk("count").add(Desk.TRY).add(Desk.TRY).add(Desk.THROW, 1).add(Desk.CATCH, 9).add(Desk.TELL)
            .add(Desk.AGAIN).add(Desk.FINALLY).add(Desk.END).add(Desk.CATCH, 1).add(Desk.FINALLY).add(Desk.NOTE, 0)
            .add(Desk.END).run(0).counts(12, 0, 6, 5, 2, 2);
        desk.add(Desk.LOOP, 0).add(Desk.TRY).counts(14, 2, 6, 5, 2, 2);
        for (int wrong : new int[] {-1, 6, Integer.MIN_VALUE, Integer.MAX_VALUE}) {
            desk.count(wrong, -1);
        }
        desk.choose(1).counts(0, 0, 6, 5, 2, 2).run(0).counts(0, 0, 0, 0, 0, 0);
    }

    private static void fault() {
        Desk desk = desk("fault").choose(2).add(Desk.TRY).add(Desk.THROW, 30).add(Desk.CATCH, 9).add(Desk.WRAP, 4)
            .add(Desk.END).run(11);
        // OWN 30 weighs 31; WRAPPED weighs twice 1 + 31 + 4.
        desk.faults(11, 83, 72, 4, 1, 81);
        for (int wrong : new int[] {-1, 6, Integer.MIN_VALUE, Integer.MAX_VALUE}) {
            desk.fault(wrong, -1);
        }
        desk.clear().add(Desk.COUNT, 3, 0).run(3).faults(3, 80, 11, 0, 0, 80).clear().run(0).noFault();
        desk.add(Desk.TRY).add(Desk.THROW, 1).add(Desk.CATCH, 1).add(Desk.END).run(0).noFault();
    }
}
