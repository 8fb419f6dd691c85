/** Routines of steps over dials and rows, with faults that tries catch by their kinds. */
public final class GaugeBench {
    private static final int ROUTINES = 4;
    private static final int DIALS = 8;
    private static final int ROWS = 18;
    private static final int MOST_PLACES = 16;
    private static final int MOST_STEPS = 40;
    private static final int MOST_OPEN = 6;
    private static final int MOST_CATCHES = 3;
    private static final int MOST_CALLS = 4;
    private static final int MOST_COUNTED = 200;
    private static final int MOST_EARLIER = 5;
    private static final long MOST_HELD = 1000000000000000L;

    private static final int END = 0;
    private static final int TRY = 1;
    private static final int CATCH = 2;
    private static final int FINALLY = 3;
    private static final int LOOP = 4;
    private static final int LEAVE = 5;
    private static final int RETURN = 6;
    private static final int THROW = 7;
    private static final int AGAIN = 8;
    private static final int WRAP = 9;
    private static final int TELL = 10;
    private static final int IF = 11;
    private static final int CALL = 12;
    private static final int MAKE = 13;
    private static final int DROP = 14;
    private static final int COUNT = 15;
    private static final int GET = 16;
    private static final int PUT = 17;
    private static final int FIT = 18;
    private static final int SET = 19;
    private static final int FINE = 20;
    private static final int ROUGH = 21;
    private static final int WHOLE = 22;
    private static final int WIDE = 23;
    private static final int NOTE = 24;

    private static final int NO_FAULT = 0;
    private static final int MISSING = 3;
    private static final int PLACE = 4;
    private static final int SIZE = 5;
    private static final int ZERO = 7;
    private static final int RANGE = 8;
    private static final int OWN = 9;
    private static final int TIRED = 10;
    private static final int WRAPPED = 11;

    private final Routine[] routines;
    private final Gauges gauges;
    private final Runner runner;
    private int atHand;

    public GaugeBench() {
        routines = new Routine[ROUTINES];
        for (int r = 0; r < ROUTINES; r++) {
            routines[r] = new Routine();
        }
        gauges = new Gauges();
        runner = new Runner(routines, gauges);
        atHand = 0;
    }

    public int choose(int routine) {
        if (routine < 0 || routine >= ROUTINES) {
            return -1;
        }
        atHand = routine;
        return routines[atHand].length;
    }

    public int step(int what, int a, int b, int c) {
        if (!Routine.isTold(what, a, b, c)) {
            return -1;
        }
        if (!routines[atHand].hasRoomInBlocks(what)) {
            return -2;
        }
        return routines[atHand].append(what, a, b, c) ? routines[atHand].length : -3;
    }

    public int clear() {
        int before = routines[atHand].length;
        routines[atHand].empty();
        return before;
    }

    public int run() {
        if (routines[atHand].openBlocks > 0) {
            return -1;
        }
        runner.begin();
        runner.doPart(atHand, Routine.WHOLE_ROUTINE, null, 0);
        return runner.thrown == null ? 0 : runner.thrown.kind;
    }

    public double dial(int d) {
        return d < 0 || d >= DIALS ? 0 : gauges.dials[d];
    }

    public int size(int w) {
        return w < 0 || w >= ROWS ? -2 : gauges.sizes[w];
    }

    public double value(int w, int i) {
        return gauges.hasPlace(w, i) ? gauges.numbers[Gauges.indexOf(w, i)] : 0;
    }

    public boolean isFitted(int w, int i) {
        return gauges.hasPlace(w, i) && gauges.fitted[Gauges.indexOf(w, i)];
    }

    public double log(int i) {
        return i < 0 || i >= runner.noted ? 0 : runner.notes[i];
    }

    public boolean isMinus(int i) {
        return i >= 0 && i < runner.noted && Sums.hasMinus(runner.notes[i]);
    }

    public int count(int what) {
        switch (what) {
            case 0: return routines[atHand].length;
            case 1: return routines[atHand].openBlocks;
            case 2: return runner.counted;
            case 3: return runner.noted;
            case 4: return runner.catches;
            case 5: return runner.lastParts;
            default: return -1;
        }
    }

    public int fault(int what) {
        Fault thrown = runner.thrown;
        if (thrown == null) {
            return -1;
        }
        switch (what) {
            case 0: return thrown.kind;
            case 1: return thrown.place;
            case 2: return thrown.weight;
            case 3: return thrown.number;
            case 4: return thrown.earlierOnes;
            case 5: return thrown.firstPlace;
            default: return -1;
        }
    }

    /** A fault never changes; what its earlier ones add to it is reckoned when it is made. */
    private static final class Fault {
        /** For each kind the one that it stands right below; 0 where there is none. */
        private static final int[] ABOVE = {0, 0, 1, 2, 2, 2, 1, 6, 6, 1, 1, 9};
        private static final int KINDS_DEEP = 3;

        final int kind;
        final int place;
        final int number;
        final int weight;
        final int earlierOnes;
        final int firstPlace;

        Fault(int kind, int place, int number, Fault earlier) {
            this.kind = kind;
            this.place = place;
            this.number = number;
            weight = weigh(kind, number, earlier == null ? 1 : 1 + earlier.weight);
            earlierOnes = earlier == null ? 0 : 1 + earlier.earlierOnes;
            firstPlace = earlier == null ? place : earlier.firstPlace;
        }

        private static int weigh(int kind, int number, int plain) {
            switch (kind) {
                case MISSING: return plain + 10;
                case SIZE: return 3 * plain;
                case ZERO: return plain + 100;
                case RANGE: return plain + 105;
                case OWN: return plain + number;
                case WRAPPED: return 2 * (plain + number);
                default: return plain;
            }
        }

        boolean isUnder(int other) {
            int above = kind;
            for (int i = 1; i < KINDS_DEEP && above != other; i++) {
                above = ABOVE[above];
            }
            return above == other;
        }
    }

    /** The steps of a routine, and where its blocks and their parts begin and end. */
    private static final class Routine {
        static final int WHOLE_ROUTINE = -1;
        private static final int NONE = -1;

        // For each step what its arguments may be at the most; ANY where one is not named.
        private static final int ANY = -1;
        private static final int[] A_LEAST = {
            0, 0, 1, 0, 0, 0, 0, 0, 0, 0, 0, 0, 0, 0, 0, 0, 0, 0, 16, 0, 0, 0, 0, 0, 0};
        private static final int[] A_MOST = {
            ANY, ANY, 11, ANY, 6, ANY, ANY, 99, ANY, 99, ANY, 7, 3,
            17, 17, 17, 17, 17, 17, 7, 13, 13, 7, 7, 7};
        private static final int[] B_MOST = {
            ANY, ANY, ANY, ANY, ANY, ANY, ANY, ANY, ANY, ANY, ANY, 3, ANY,
            7, ANY, 7, 7, 7, 7, ANY, 7, 7, 7, 7, ANY};
        private static final int[] C_MOST = {
            ANY, ANY, ANY, ANY, ANY, ANY, ANY, ANY, ANY, ANY, ANY, 7, ANY,
            ANY, ANY, ANY, 7, 7, ANY, ANY, 7, 7, 7, 7, ANY};

        final int[] what = new int[MOST_STEPS];
        final int[] a = new int[MOST_STEPS];
        final int[] b = new int[MOST_STEPS];
        final int[] c = new int[MOST_STEPS];
        /** Of a step that begins a part: the step that ends it. */
        private final int[] partEnd = new int[MOST_STEPS];
        /** The step that comes when this one has been done, with its block if it opens one. */
        final int[] behind = new int[MOST_STEPS];
        int length;

        private final int[] openStep = new int[MOST_OPEN];
        private final int[] openPart = new int[MOST_OPEN];
        /** Of a block that is open: its parts behind the first, which are CATCH parts up to FINALLY. */
        private final int[] laterParts = new int[MOST_OPEN];
        int openBlocks;

        Routine() {
            length = 0;
            openBlocks = 0;
        }

        static boolean isTold(int what, int a, int b, int c) {
            return what >= END && what <= NOTE
                && isWithin(a, A_LEAST[what], A_MOST[what])
                && isWithin(b, 0, B_MOST[what])
                && isWithin(c, 0, C_MOST[what]);
        }

        private static boolean isWithin(int argument, int least, int most) {
            return most == ANY || argument >= least && argument <= most;
        }

        void empty() {
            length = 0;
            openBlocks = 0;
        }

        /** Whether the blocks that are open let such a step come next. */
        boolean hasRoomInBlocks(int next) {
            switch (next) {
                case END: return openBlocks > 0;
                case CATCH: return hasRoomForPart() && laterParts[openBlocks - 1] < MOST_CATCHES;
                case FINALLY: return hasRoomForPart();
                case LEAVE: return canLeave();
                case RETURN: return !isPartOpen(FINALLY);
                case AGAIN: case WRAP: case TELL: return isPartOpen(CATCH);
                case TRY: case LOOP: case IF: return openBlocks < MOST_OPEN;
                default: return true;
            }
        }

        private boolean hasRoomForPart() {
            return openBlocks > 0
                && what[openStep[openBlocks - 1]] == TRY
                && what[openPart[openBlocks - 1]] != FINALLY;
        }

        private boolean canLeave() {
            for (int i = openBlocks - 1; i >= 0; i--) {
                if (what[openPart[i]] == FINALLY) {
                    return false;
                }
                if (what[openStep[i]] == LOOP) {
                    return true;
                }
            }
            return false;
        }

        private boolean isPartOpen(int beginning) {
            for (int i = 0; i < openBlocks; i++) {
                if (what[openPart[i]] == beginning) {
                    return true;
                }
            }
            return false;
        }

        /** Takes a step that is told and has room in the blocks; false if there are too many. */
        boolean append(int newWhat, int newA, int newB, int newC) {
            if (length >= MOST_STEPS) {
                return false;
            }
            what[length] = newWhat;
            a[length] = newA;
            b[length] = newB;
            c[length] = newC;
            behind[length] = length + 1;
            if (newWhat == TRY || newWhat == LOOP || newWhat == IF) {
                openBlock();
            } else if (newWhat == CATCH || newWhat == FINALLY) {
                beginPart();
            } else if (newWhat == END) {
                closeBlock();
            }
            length++;
            return true;
        }

        private void openBlock() {
            if (openBlocks < MOST_OPEN) {
                openStep[openBlocks] = length;
                openPart[openBlocks] = length;
                laterParts[openBlocks] = 0;
                openBlocks++;
            }
        }

        private void beginPart() {
            if (openBlocks > 0) {
                partEnd[openPart[openBlocks - 1]] = length;
                openPart[openBlocks - 1] = length;
                laterParts[openBlocks - 1]++;
            }
        }

        private void closeBlock() {
            if (openBlocks > 0) {
                partEnd[openPart[openBlocks - 1]] = length;
                behind[openStep[openBlocks - 1]] = length + 1;
                openBlocks--;
            }
        }

        int endOfPart(int head) {
            return head == WHOLE_ROUTINE ? length : partEnd[head];
        }

        /** The first CATCH of this TRY that catches the fault, or NONE. */
        int catchOf(int tryStep, Fault fault) {
            int part = partEnd[tryStep];
            for (int i = 0; i < MOST_CATCHES && what[part] == CATCH; i++) {
                if (fault.isUnder(a[part])) {
                    return part;
                }
                part = partEnd[part];
            }
            return NONE;
        }

        int finallyOf(int tryStep) {
            int part = partEnd[tryStep];
            for (int i = 0; i < MOST_CATCHES && what[part] == CATCH; i++) {
                part = partEnd[part];
            }
            return what[part] == FINALLY ? part : NONE;
        }
    }

    /** The dials and the rows, and the steps that work with them alone. */
    private static final class Gauges {
        private static final int IS_MISSING = -1;
        private static final int FLAGS = 0;
        private static final int BYTES = 1;
        private static final int CHARS = 2;
        private static final int SHORTS = 3;
        private static final int INTS = 4;
        private static final int LONGS = 5;
        private static final int FLOATS = 6;
        private static final int PROBES = 8;

        final double[] dials = new double[DIALS];
        final int[] sizes = new int[ROWS];
        // A number is held as the double that is got from its place: for every kind of row that
        // double tells it whole, since no dial is beyond what a long tells a double exactly.
        final double[] numbers = new double[ROWS * MOST_PLACES];
        final boolean[] fitted = new boolean[ROWS * MOST_PLACES];

        Gauges() {
            for (int w = 0; w < ROWS; w++) {
                sizes[w] = IS_MISSING;
            }
        }

        static int indexOf(int row, int place) {
            return MOST_PLACES * row + place;
        }

        boolean hasPlace(int row, int place) {
            return row >= 0 && row < ROWS && place >= 0 && place < sizes[row];
        }

        /** Does one of the steps MAKE .. WIDE: the kind of the fault that it throws, or NO_FAULT. */
        int work(int what, int a, int b, int c) {
            switch (what) {
                case MAKE: return make(a, (int) dials[b]);
                case DROP: return drop(a);
                case COUNT: return tellSize(a, b);
                case GET: return get(a, (int) dials[b], c);
                case PUT: return put(a, (int) dials[b], dials[c]);
                case FIT: return fit(a, (int) dials[b]);
                case SET: return turn(a, b / 8.0);
                case FINE:
                    return Sums.isByZero(a, dials[c]) ? ZERO
                        : turn(b, Sums.fine(a, dials[b], dials[c]));
                case ROUGH:
                    return Sums.isByZero(a, (float) dials[c]) ? ZERO
                        : turn(b, Sums.rough(a, (float) dials[b], (float) dials[c]));
                case WHOLE:
                    return Sums.isByZero(a, (int) dials[c]) ? ZERO
                        : turn(b, Sums.whole(a, (int) dials[b], (int) dials[c]));
                case WIDE:
                    return Sums.isByZero(a, (long) dials[c]) ? ZERO
                        : turn(b, Sums.wide(a, (long) dials[b], (long) dials[c]));
                default: return NO_FAULT;
            }
        }

        boolean isSo(int left, int how, int right) {
            switch (how) {
                case 0: return dials[left] < dials[right];
                case 1: return dials[left] == dials[right];
                case 2: return dials[left] != dials[right];
                default: return dials[left] >= dials[right];
            }
        }

        private int turn(int dial, double number) {
            if (number > MOST_HELD || number < -MOST_HELD) {
                return RANGE;
            }
            dials[dial] = number;
            return NO_FAULT;
        }

        private int make(int row, int places) {
            if (places > MOST_PLACES) {
                return RANGE;
            }
            if (places < 0) {
                return SIZE;
            }
            sizes[row] = places;
            for (int i = 0; i < MOST_PLACES; i++) {
                numbers[indexOf(row, i)] = 0;
                fitted[indexOf(row, i)] = false;
            }
            return NO_FAULT;
        }

        private int drop(int row) {
            sizes[row] = IS_MISSING;
            return NO_FAULT;
        }

        private int tellSize(int row, int dial) {
            return sizes[row] == IS_MISSING ? MISSING : turn(dial, sizes[row]);
        }

        private int get(int row, int place, int dial) {
            int lack = lackOfNumber(row, place);
            return lack != NO_FAULT ? lack : turn(dial, numbers[indexOf(row, place)]);
        }

        private int put(int row, int place, double number) {
            int lack = lackOfNumber(row, place);
            if (lack == NO_FAULT) {
                numbers[indexOf(row, place)] = asHeld(row / 2, number);
            }
            return lack;
        }

        private int fit(int row, int place) {
            int lack = lackOfPlace(row, place);
            if (lack == NO_FAULT) {
                numbers[indexOf(row, place)] = 0;
                fitted[indexOf(row, place)] = true;
            }
            return lack;
        }

        private int lackOfPlace(int row, int place) {
            if (sizes[row] == IS_MISSING) {
                return MISSING;
            }
            return hasPlace(row, place) ? NO_FAULT : PLACE;
        }

        private int lackOfNumber(int row, int place) {
            int lack = lackOfPlace(row, place);
            if (lack == NO_FAULT && row / 2 == PROBES && !fitted[indexOf(row, place)]) {
                return MISSING;
            }
            return lack;
        }

        private static double asHeld(int kind, double number) {
            switch (kind) {
                case FLAGS: return number != 0 ? 1 : 0;
                case BYTES: return (byte) (int) number;
                case CHARS: return (char) (int) number;
                case SHORTS: return (short) (int) number;
                case INTS: return (int) number;
                case LONGS: return (long) number;
                case FLOATS: return (float) number;
                default: return number;
            }
        }
    }

    /** What FINE, ROUGH, WHOLE and WIDE reckon, by the operators on doubles that are allowed. */
    private static final class Sums {
        private static final int DIVIDE = 3;
        private static final int REST = 4;
        /** The greatest number of a dial is less than 2 to the 1200th times the least double. */
        private static final int MOST_DOUBLINGS = 1200;

        static boolean isByZero(int sum, double y) {
            return (sum == DIVIDE || sum == REST) && y == 0;
        }

        /** Only a division tells -0 from 0. */
        static boolean hasMinus(double x) {
            return x == 0 ? 1 / x < 0 : x < 0;
        }

        static double fine(int sum, double x, double y) {
            switch (sum) {
                case 0: return x + y;
                case 1: return x - y;
                case 2: return x * y;
                case DIVIDE: return x / y;
                case REST: return rest(x, y);
                case 5: return x < y || x == y && hasMinus(x) ? x : y;
                case 6: return x > y || x == y && hasMinus(y) ? x : y;
                case 7: return hasMinus(x) == hasMinus(y) ? x : -x;
                case 8: return hasMinus(y) ? -y : y;
                case 9: return floor(y);
                case 10: return -floor(-y);
                case 11: return nearest(y);
                case 12: return y > 0 ? 1 : y < 0 ? -1 : y;
                default: return (long) y;
            }
        }

        /** From REST on a double tells the same as a float would, since no answer is rounded. */
        static double rough(int sum, float x, float y) {
            switch (sum) {
                case 0: return x + y;
                case 1: return x - y;
                case 2: return x * y;
                case DIVIDE: return x / y;
                default: return fine(sum, x, y);
            }
        }

        /** What ints answer, wrapped, is what longs do, cut to an int. */
        static int whole(int sum, int x, int y) {
            return (int) wide(sum, x, y);
        }

        static long wide(int sum, long x, long y) {
            switch (sum) {
                case 0: return x + y;
                case 1: return x - y;
                case 2: return x * y;
                case DIVIDE: return x / y;
                case REST: return x % y;
                case 5: return x & y;
                case 6: return x | y;
                default: return x ^ y;
            }
        }

        /**
         * Takes y, doubled as often as it goes, away from x, then half of that, and so on down to
         * y: each difference is of two numbers of which none is over twice the other, so exact.
         */
        private static double rest(double x, double y) {
            double left = x < 0 ? -x : x;
            double part = y < 0 ? -y : y;
            int doublings = 0;
            for (int i = 0; i < MOST_DOUBLINGS && part + part <= left; i++) {
                part = part + part;
                doublings++;
            }
            for (int i = 0; i <= doublings; i++) {
                if (part <= left) {
                    left = left - part;
                }
                part = part / 2;
            }
            return x < 0 ? -left : left;
        }

        /** What a dial holds fits a long, so the cast only cuts off. */
        private static double floor(double y) {
            if (y == 0) {
                return y;
            }
            double whole = (long) y;
            return whole > y ? whole - 1 : whole;
        }

        private static double nearest(double y) {
            if (y == 0) {
                return y;
            }
            double size = y < 0 ? -y : y;
            long whole = (long) size;
            double part = size - whole;
            boolean isUp = part > 0.5 || part == 0.5 && whole % 2 == 1;
            double near = isUp ? whole + 1 : whole;
            return y < 0 ? -near : near;
        }
    }

    /** Does the steps of a run, and keeps what the latest run has told. */
    private static final class Runner {
        // How a step or a part is left. While it is by a fault, that fault is in thrown.
        private static final int AT_ITS_END = 0;
        private static final int BY_LEAVE = 1;
        private static final int BY_RETURN = 2;
        private static final int BY_FAULT = 3;

        private static final int NUMBERS_TOLD = 4;

        private final Routine[] routines;
        private final Gauges gauges;
        final double[] notes = new double[NUMBERS_TOLD * MOST_COUNTED];
        int noted;
        int counted;
        int catches;
        int lastParts;
        Fault thrown;

        Runner(Routine[] routines, Gauges gauges) {
            this.routines = routines;
            this.gauges = gauges;
        }

        void begin() {
            noted = 0;
            counted = 0;
            catches = 0;
            lastParts = 0;
            thrown = null;
        }

        /**
         * Does the part that the step head begins; caught is what the CATCH part around it caught,
         * calls how many CALLS are being done. It goes no deeper than the blocks that a routine
         * takes, in no more routines at once than CALL lets in.
         */
        int doPart(int routine, int head, Fault caught, int calls) {
            Routine steps = routines[routine];
            int end = steps.endOfPart(head);
            int next = head + 1;
            for (int at = head + 1; at < end; at++) {
                if (at == next) {
                    int left = doStep(routine, at, caught, calls);
                    if (left != AT_ITS_END) {
                        return left;
                    }
                    next = steps.behind[at];
                }
            }
            return AT_ITS_END;
        }

        private int doStep(int routine, int at, Fault caught, int calls) {
            int place = MOST_STEPS * routine + at;
            if (!isCounted()) {
                return throwPlain(TIRED, place);
            }
            Routine steps = routines[routine];
            int what = steps.what[at];
            int a = steps.a[at];
            int b = steps.b[at];
            int c = steps.c[at];
            switch (what) {
                case TRY: return doTry(routine, at, caught, calls);
                case LOOP: return doLoop(routine, at, caught, calls);
                case IF:
                    return gauges.isSo(a, b, c) ? doPart(routine, at, caught, calls) : AT_ITS_END;
                case CALL: return doCall(a, place, calls);
                case LEAVE: return BY_LEAVE;
                case RETURN: return BY_RETURN;
                case THROW: return throwFault(new Fault(OWN, place, a, null));
                case AGAIN: return throwFault(caught);
                case WRAP: return wrap(caught, a, place);
                case TELL: return tell(caught);
                case NOTE: return note(gauges.dials[a]);
                default: return throwPlain(gauges.work(what, a, b, c), place);
            }
        }

        private boolean isCounted() {
            if (counted >= MOST_COUNTED) {
                return false;
            }
            counted++;
            return true;
        }

        private int doTry(int routine, int at, Fault caught, int calls) {
            Routine steps = routines[routine];
            int left = doPart(routine, at, caught, calls);
            if (left == BY_FAULT && thrown != null) {
                int part = steps.catchOf(at, thrown);
                if (part != Routine.NONE) {
                    Fault fault = thrown;
                    thrown = null;
                    catches++;
                    left = doPart(routine, part, fault, calls);
                }
            }
            int last = steps.finallyOf(at);
            return last == Routine.NONE ? left : doFinally(routine, last, caught, calls, left);
        }

        private int doFinally(int routine, int part, Fault caught, int calls, int before) {
            Fault goingOn = thrown;
            lastParts++;
            if (doPart(routine, part, caught, calls) == BY_FAULT) {
                return BY_FAULT;
            }
            thrown = goingOn;
            return before;
        }

        private int doLoop(int routine, int at, Fault caught, int calls) {
            int rounds = routines[routine].a[at];
            for (int i = 0; i < rounds; i++) {
                if (!isCounted()) {
                    return throwPlain(TIRED, MOST_STEPS * routine + at);
                }
                int left = doPart(routine, at, caught, calls);
                if (left != AT_ITS_END) {
                    return left == BY_LEAVE ? AT_ITS_END : left;
                }
            }
            return AT_ITS_END;
        }

        private int doCall(int routine, int place, int calls) {
            if (routines[routine].openBlocks > 0 || calls >= MOST_CALLS) {
                return throwPlain(TIRED, place);
            }
            int left = doPart(routine, Routine.WHOLE_ROUTINE, null, calls + 1);
            return left == BY_FAULT ? BY_FAULT : AT_ITS_END;
        }

        private int throwPlain(int kind, int place) {
            return kind == NO_FAULT ? AT_ITS_END : throwFault(new Fault(kind, place, 0, null));
        }

        private int throwFault(Fault fault) {
            thrown = fault;
            return fault == null ? AT_ITS_END : BY_FAULT;
        }

        private int wrap(Fault caught, int number, int place) {
            if (caught == null || caught.earlierOnes >= MOST_EARLIER) {
                return throwPlain(TIRED, place);
            }
            return throwFault(new Fault(WRAPPED, place, number, caught));
        }

        private int tell(Fault caught) {
            if (caught != null) {
                note(caught.kind);
                note(caught.place);
                note(caught.weight);
                note(caught.earlierOnes);
            }
            return AT_ITS_END;
        }

        private int note(double number) {
            if (noted < notes.length) {
                notes[noted] = number;
                noted++;
            }
            return AT_ITS_END;
        }
    }
}
