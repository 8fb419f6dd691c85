/** A bench with the names of its steps, for tests that read like routines. */
final class Desk {
    static final int END = 0, TRY = 1, CATCH = 2, FINALLY = 3, LOOP = 4, LEAVE = 5, RETURN = 6,
        THROW = 7, AGAIN = 8, WRAP = 9, TELL = 10, IF = 11, CALL = 12, MAKE = 13, DROP = 14,
        COUNT = 15, GET = 16, PUT = 17, FIT = 18, SET = 19, FINE = 20, ROUGH = 21, WHOLE = 22,
        WIDE = 23, NOTE = 24;

    final GaugeBench bench = new GaugeBench();
    private final Check check;
    private final String name;

    Desk(Check check, String name) {
        this.check = check;
        this.name = name;
    }

    /** Adds a step that must be taken; arguments that are not given are wild, to be not looked at. */
    Desk add(int what, int... arguments) {
        int due = bench.count(0) + 1;
        check.same(name + ": step " + what, due, step(what, arguments));
        return this;
    }

    int step(int what, int... arguments) {
        int a = arguments.length > 0 ? arguments[0] : -77;
        int b = arguments.length > 1 ? arguments[1] : Integer.MIN_VALUE;
        int c = arguments.length > 2 ? arguments[2] : Integer.MAX_VALUE;
        return bench.step(what, a, b, c);
    }

    Desk refuse(int due, int what, int... arguments) {
        int steps = bench.count(0);
        int open = bench.count(1);
        check.same(name + ": step " + what, due, step(what, arguments));
        check.same(name + ": steps", steps, bench.count(0));
        check.same(name + ": open", open, bench.count(1));
        return this;
    }

    Desk choose(int routine) {
        bench.choose(routine);
        return this;
    }

    Desk clear() {
        bench.clear();
        return this;
    }

    Desk run(int due) {
        check.same(name + ": run", due, bench.run());
        return this;
    }

    Desk counts(int... due) {
        for (int i = 0; i < due.length; i++) {
            check.same(name + ": count " + i, due[i], bench.count(i));
        }
        return this;
    }

    Desk faults(int... due) {
        for (int i = 0; i < due.length; i++) {
            check.same(name + ": fault " + i, due[i], bench.fault(i));
        }
        return this;
    }

    Desk noFault() {
        return faults(-1, -1, -1, -1, -1, -1);
    }

    /** The whole log, which is those numbers and no others. */
    Desk logs(double... due) {
        check.same(name + ": count 3", due.length, bench.count(3));
        for (int i = 0; i < due.length; i++) {
            check.same(name + ": log " + i, due[i], bench.log(i));
            check.same(name + ": isMinus " + i, due[i] < 0 || 1 / due[i] < 0, bench.isMinus(i));
        }
        check.same(name + ": log behind its end", 0.0, bench.log(due.length));
        check.same(name + ": isMinus behind its end", false, bench.isMinus(due.length));
        return this;
    }

    Desk dial(int d, double due) {
        check.same(name + ": dial " + d, due, bench.dial(d));
        return this;
    }

    Desk size(int w, int due) {
        check.same(name + ": size " + w, due, bench.size(w));
        return this;
    }

    Desk value(int w, int i, double due) {
        check.same(name + ": value " + w + ", " + i, due, bench.value(w, i));
        return this;
    }

    Desk fitted(int w, int i, boolean due) {
        check.same(name + ": isFitted " + w + ", " + i, due, bench.isFitted(w, i));
        return this;
    }
}
