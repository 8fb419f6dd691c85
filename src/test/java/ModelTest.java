import java.util.ArrayList;
import java.util.List;
import java.util.Random;

/** Runs of calls that are drawn, always the same ones, on the class and on the model at once. */
public final class ModelTest {
    private static final int OBJECTS = 2000;
    private static final int NESTED_OBJECTS = 6000;
    private static final int MOST_CHANGES = 300;
    /** The document frees what later calls on an object answer. */
    private static final int MOST_CALLS = 512;
    private static final int[] IN_BLOCKS = {5, 6, 7, 7, 8, 9, 9, 10, 10, 12, 12, 13, 15, 16, 19, 20, 22, 24};
    private static final int[] CONTROL = {
        0, 0, 0, 1, 1, 2, 2, 3, 3, 4, 4, 5, 6, 7, 7, 8, 9, 10, 10, 11, 12, 12, 13, 16, 19, 22, 24};
    private static final int[] ROWS = {13, 13, 14, 15, 16, 16, 17, 17, 18, 18, 19, 19, 19, 20, 24};
    private static final int[] SUMS = {19, 19, 20, 20, 20, 20, 21, 21, 21, 21, 22, 23, 24, 24};

    private static final int CHOOSE = 0;
    private static final int CLEAR = 1;
    private static final int RUN = 2;
    private static final int STEP = 3;

    private final Check check = new Check("model");
    private final Random random;
    private GaugeBench bench = new GaugeBench();
    private final Model model = new Model();
    private final List<int[]> changes = new ArrayList<>();
    private int callsOnBench;
    private final StringBuilder calls = new StringBuilder();

    private ModelTest(long seed) {
        random = new Random(seed);
    }

    public static void main(String[] args) {
        Check all = new Check("model");
        for (int i = 0; i < OBJECTS + NESTED_OBJECTS; i++) {
            ModelTest test = new ModelTest(i);
            if (i < OBJECTS) {
                test.callAll(i % 4);
            } else {
                test.nestAll();
            }
            all.same("object " + i + "\n" + (test.check.isWrong() ? test.calls : ""),
                false, test.check.isWrong());
            if (all.isWrong()) {
                break;
            }
        }
        all.end();
    }

    private void callAll(int profile) {
        lookAtAll();
        while (changes.size() < MOST_CHANGES && !check.isWrong()) {
            int draw = random.nextInt(100);
            if (draw < 82) {
                step(profile);
            } else if (draw < 85) {
                choose(random.nextInt(6) - 1);
            } else if (draw < 87) {
                clear();
            } else {
                closeAll();
                run();
                lookAtAll();
            }
        }
    }

    /** Routines of blocks in blocks, so that faults are caught, wrapped and go through FINALLY parts. */
    private void nestAll() {
        for (int round = 0; round < 2 && !check.isWrong(); round++) {
            for (int routine = 0; routine < 4; routine++) {
                choose(routine);
                clear();
                nest(0);
            }
            for (int routine = 0; routine < 4 && !check.isWrong(); routine++) {
                choose(routine);
                run();
                lookAtAll();
            }
        }
    }

    private void choose(int routine) {
        change("choose " + routine, model.choose(routine), CHOOSE, routine);
    }

    private void clear() {
        change("clear", model.clear(), CLEAR);
    }

    private void run() {
        change("run", model.run(), RUN);
    }

    private void take(int what, int a, int b, int c) {
        change("step " + what + ", " + a + ", " + b + ", " + c, model.step(what, a, b, c), STEP, what, a, b, c);
    }

    private void change(String name, int due, int... call) {
        GaugeBench now = bench();
        changes.add(call);
        calls.append(name).append('\n');
        same(name, due, change(now, call));
    }

    private static int change(GaugeBench bench, int[] call) {
        switch (call[0]) {
            case CHOOSE: return bench.choose(call[1]);
            case CLEAR: return bench.clear();
            case RUN: return bench.run();
            default: return bench.step(call[1], call[2], call[3], call[4]);
        }
    }

    /** When an object has had all its calls, a new one on which the same was done goes on. */
    private GaugeBench bench() {
        if (callsOnBench == MOST_CALLS) {
            bench = new GaugeBench();
            callsOnBench = changes.size();
            for (int[] call : changes) {
                change(bench, call);
            }
        }
        callsOnBench++;
        return bench;
    }

    /** Leaves room for the ENDs of the blocks that are open. */
    private boolean hasRoom(int steps) {
        return model.count(0) + model.count(1) + steps <= 40;
    }

    private void nest(int depth) {
        int steps = random.nextInt(depth == 0 ? 8 : 4);
        for (int i = 0; i < steps; i++) {
            int draw = random.nextInt(10);
            if (draw < 3 && hasRoom(4) && depth < 7) {
                nestTry(depth);
            } else if (draw == 3 && hasRoom(2)) {
                nestIn(4, random.nextInt(7), 0, depth);
            } else if (draw == 4 && hasRoom(2)) {
                nestIn(11, random.nextInt(8), random.nextInt(4), depth);
            } else if (hasRoom(1)) {
                int what = IN_BLOCKS[random.nextInt(IN_BLOCKS.length)];
                take(what, a(what, false), b(what, false), argument(7, false));
            }
        }
    }

    private void nestIn(int what, int a, int b, int depth) {
        int open = model.count(1);
        take(what, a, b, random.nextInt(8));
        nest(depth + 1);
        if (model.count(1) > open) {
            take(0, 0, 0, 0);
        }
    }

    private void nestTry(int depth) {
        int open = model.count(1);
        take(1, 0, 0, 0);
        nest(depth + 1);
        if (model.count(1) == open) {
            return;
        }
        for (int i = random.nextInt(4); i > 0 && hasRoom(1); i--) {
            take(2, random.nextInt(3) == 0 ? 1 : 1 + random.nextInt(11), 0, 0);
            nest(depth + 1);
        }
        if (random.nextInt(3) == 0 && hasRoom(1)) {
            take(3, 0, 0, 0);
            nest(depth + 1);
        }
        take(0, 0, 0, 0);
    }

    private void closeAll() {
        for (int i = 0; i < 7 && random.nextInt(12) > 0; i++) {
            take(0, 0, 0, 0);
        }
        if (model.count(0) == 40 && random.nextInt(3) > 0) {
            clear();
        }
    }

    private void step(int profile) {
        int what;
        switch (profile) {
            case 0: what = CONTROL[random.nextInt(CONTROL.length)]; break;
            case 1: what = ROWS[random.nextInt(ROWS.length)]; break;
            case 2: what = SUMS[random.nextInt(SUMS.length)]; break;
            default: what = random.nextInt(25);
        }
        if (random.nextInt(60) == 0) {
            what = random.nextInt(40) - 8;
        }
        boolean wild = random.nextInt(40) == 0;
        take(what, a(what, wild), b(what, wild), argument(7, wild));
    }

    private int a(int what, boolean wild) {
        switch (what) {
            case 2: return 1 + argument(10, wild);
            case 4: return argument(6, wild);
            case 7: case 9: return argument(99, wild);
            case 12: return argument(3, wild);
            case 13: case 14: case 15: case 16: case 17: return argument(17, wild);
            case 18: return 16 + argument(1, wild);
            case 20: case 21: return argument(13, wild);
            default: return argument(7, wild);
        }
    }

    private int b(int what, boolean wild) {
        if (what == 11) {
            return argument(3, wild);
        }
        if (what != 19) {
            return argument(7, wild);
        }
        switch (random.nextInt(6)) {
            case 0: return random.nextInt();
            case 1: return random.nextInt(41) - 20;
            case 2: return random.nextBoolean() ? Integer.MAX_VALUE : Integer.MIN_VALUE;
            case 3: return 0;
            default: return 8 * (random.nextInt(21) - 3);
        }
    }

    private int argument(int most, boolean wild) {
        return wild ? random.nextInt(most + 7) - 3 : random.nextInt(most + 1);
    }

    private void lookAtAll() {
        for (int d = -1; d <= 8; d++) {
            same("dial " + d, model.dial(d), bench().dial(d));
        }
        for (int w = -1; w <= 18; w++) {
            same("size " + w, model.size(w), bench().size(w));
            for (int i = -1; i <= 16; i++) {
                same("value " + w + ", " + i, model.value(w, i), bench().value(w, i));
                same("isFitted " + w + ", " + i, model.isFitted(w, i), bench().isFitted(w, i));
            }
        }
        for (int i = -1; i <= model.count(3); i++) {
            same("log " + i, model.log(i), bench().log(i));
            same("isMinus " + i, model.isMinus(i), bench().isMinus(i));
        }
        for (int what = -1; what <= 6; what++) {
            same("count " + what, model.count(what), bench().count(what));
            same("fault " + what, model.fault(what), bench().fault(what));
        }
    }

    private void same(String call, Object due, Object got) {
        check.same(call, due, got);
        if (check.isWrong()) {
            calls.append(call).append(" -> ").append(got).append('\n');
        }
    }
}
