import java.util.Arrays;
import java.util.List;

/** A bench with the names of its steps, for tests that read like routines. */
final class Desk {
    static final int END = 0, TRY = 1, CATCH = 2, FINALLY = 3, LOOP = 4, LEAVE = 5, RETURN = 6,
        THROW = 7, AGAIN = 8, WRAP = 9, TELL = 10, IF = 11, CALL = 12, MAKE = 13, DROP = 14,
        COUNT = 15, GET = 16, PUT = 17, FIT = 18, SET = 19, FINE = 20, ROUGH = 21, WHOLE = 22,
        WIDE = 23, NOTE = 24;

    private static final List<String> NAMES = Arrays.asList("END", "TRY", "CATCH", "FINALLY", "LOOP",
        "LEAVE", "RETURN", "THROW", "AGAIN", "WRAP", "TELL", "IF", "CALL", "MAKE", "DROP", "COUNT",
        "GET", "PUT", "FIT", "SET", "FINE", "ROUGH", "WHOLE", "WIDE", "NOTE");

    /** The document frees what later calls answer, so no test may ask for it. */
    private static final int MOST_CALLS = 512;

    /** Dials that turn() works with, and leaves 0. */
    private static final int SPARE = 6, FACTOR = 7;

    private final GaugeBench bench = new GaugeBench();
    private final Check check;
    private final String name;
    private final int[] steps = new int[4];
    private final int[] open = new int[4];
    private int atHand;
    private int calls;

    Desk(Check check, String name) {
        this.check = check;
        this.name = name;
    }

    private GaugeBench bench() {
        calls++;
        if (calls > MOST_CALLS) {
            throw new IllegalStateException(name + ": a test makes more than " + MOST_CALLS + " calls");
        }
        return bench;
    }

    private Desk same(String call, Object due, Object got) {
        check.same(name + ": " + call, due, got);
        return this;
    }

    /** Adds steps that must be taken, such as "TRY, THROW 5, CATCH 9, END". */
    Desk steps(String written) {
        for (String step : written.split(", *")) {
            add(what(step), arguments(step));
        }
        return this;
    }

    private static int what(String step) {
        int what = NAMES.indexOf(step.split(" ")[0]);
        if (what < 0) {
            throw new IllegalArgumentException("no such step: " + step);
        }
        return what;
    }

    private static int[] arguments(String step) {
        String[] words = step.split(" ");
        int[] arguments = new int[words.length - 1];
        for (int i = 0; i < arguments.length; i++) {
            arguments[i] = Integer.parseInt(words[i + 1]);
        }
        return arguments;
    }

    /** The same steps so many times over. */
    Desk steps(int times, String written) {
        for (int i = 0; i < times; i++) {
            steps(written);
        }
        return this;
    }

    Desk add(int what, int... arguments) {
        steps[atHand]++;
        open[atHand] += what == TRY || what == LOOP || what == IF ? 1 : what == END ? -1 : 0;
        return same("step " + what + " " + Arrays.toString(arguments), steps[atHand], step(what, arguments));
    }

    /** Arguments that are not given are wild: the document says that they are not looked at. */
    private int step(int what, int... arguments) {
        int a = arguments.length > 0 ? arguments[0] : -77;
        int b = arguments.length > 1 ? arguments[1] : Integer.MIN_VALUE;
        int c = arguments.length > 2 ? arguments[2] : Integer.MAX_VALUE;
        return bench().step(what, a, b, c);
    }

    /** A step that must be refused, with nothing done. */
    Desk refuse(int due, int what, int... arguments) {
        return same("step " + what + " " + Arrays.toString(arguments), due, step(what, arguments))
            .count(0, steps[atHand]).count(1, open[atHand]);
    }

    /** Refuses each of these steps, as steps(..) writes them. */
    Desk refuses(int due, String written) {
        for (String step : written.split(", *")) {
            refuse(due, what(step), arguments(step));
        }
        return this;
    }

    /** The steps that are there are what a choice answers; a wrong one leaves the routine at hand. */
    Desk choose(int routine) {
        boolean isThere = routine >= 0 && routine < 4;
        atHand = isThere ? routine : atHand;
        return same("choose " + routine, isThere ? steps[atHand] : -1, bench().choose(routine));
    }

    Desk clear() {
        int before = steps[atHand];
        steps[atHand] = 0;
        open[atHand] = 0;
        return same("clear", before, bench().clear());
    }

    Desk run(int due) {
        return same("run", due, bench().run());
    }

    Desk count(int what, int due) {
        return same("count " + what, due, bench().count(what));
    }

    Desk counts(int... due) {
        for (int i = 0; i < due.length; i++) {
            count(i, due[i]);
        }
        return this;
    }

    Desk fault(int what, int due) {
        return same("fault " + what, due, bench().fault(what));
    }

    Desk faults(int... due) {
        for (int i = 0; i < due.length; i++) {
            fault(i, due[i]);
        }
        return this;
    }

    Desk noFault() {
        return faults(-1, -1, -1, -1, -1, -1);
    }

    Desk log(int i, double due) {
        return same("log " + i, due, bench().log(i));
    }

    Desk minus(int i, boolean due) {
        return same("isMinus " + i, due, bench().isMinus(i));
    }

    /** The whole log, which is those numbers and no others. */
    Desk logs(double... due) {
        count(3, due.length);
        for (int i = 0; i < due.length; i++) {
            log(i, due[i]).minus(i, due[i] < 0 || 1 / due[i] < 0);
        }
        return log(due.length, 0).minus(due.length, false);
    }

    Desk dial(int d, double due) {
        return same("dial " + d, due, bench().dial(d));
    }

    Desk size(int w, int due) {
        return same("size " + w, due, bench().size(w));
    }

    Desk value(int w, int i, double due) {
        return same("value " + w + ", " + i, due, bench().value(w, i));
    }

    Desk fitted(int w, int i, boolean due) {
        return same("isFitted " + w + ", " + i, due, bench().isFitted(w, i));
    }

    /**
     * Turns a dial (0 .. 5) to any double that it may hold, by a run of the routine at hand, which
     * is left empty: 26 and 27 bits of it come first, then its exponent, then its sign.
     */
    Desk turn(int dial, double number) {
        long bits = Double.doubleToLongBits(number);
        boolean isSmall = (bits >> 52 & 2047) == 0;
        long mantissa = bits & (1L << 52) - 1 | (isSmall ? 0 : 1L << 52);
        int exponent = (int) (bits >> 52 & 2047) - (isSmall ? 0 : 1) - 1074;
        clear().add(SET, dial, (int) (mantissa >> 27)).add(SET, SPARE, (int) (mantissa & (1 << 27) - 1))
            .add(SET, FACTOR, 1 << 30).add(FINE, 3, SPARE, FACTOR).add(FINE, 0, dial, SPARE);
        // The dial is the mantissa divided by 2 to the 30th there.
        scale(dial, exponent + 30);
        return add(SET, SPARE, bits < 0 ? -8 : 8).add(FINE, 7, dial, SPARE).add(SET, SPARE, 0).add(SET, FACTOR, 0)
            .run(0).clear().dial(dial, number);
    }

    /** No one factor can be over 2 to the 27th, so that one is taken as often as it goes. */
    private void scale(int dial, int exponent) {
        int sum = exponent < 0 ? 3 : 2;
        int size = Math.abs(exponent);
        add(SET, FACTOR, 8 << size % 27).add(FINE, sum, dial, FACTOR).add(SET, FACTOR, 8 << 27);
        for (int left = size / 27; left > 0; left -= 6) {
            add(LOOP, Math.min(left, 6)).add(FINE, sum, dial, FACTOR).add(END);
        }
    }
}
