/** A launderette, told in a text, run by ticks and foretold; see README.md. */
public final class LaundryLoads {
    public static final int NONE = -1000000, BAD = -1000001, STATE = -1000002, FULL = -1000003;

    private static final int FOUND = -1000010;
    private static final int FAULT_AT = -1000100;
    private static final int FOUND_NULL = 1, FOUND_PLACE = 2, FOUND_KIND = 3, FOUND_SIZE = 4, FOUND_STORE = 5;

    private static final int MOST_MACHINES = 5, MOST_LOADS = 6, MOST_POWER = 5;
    private static final int MOST_ROOM = 9, MOST_SLOW = 5, MOST_SIZE = 9;
    private static final int MOST_DUE_TOLD = 60, MOST_DUE = 99;
    private static final int MOST_TICK = 999, MOST_DONE = 999, MOST_AHEAD = 60, MOST_PLANNED = 50;
    private static final int MOST_ACTS = 24, IMAGES = 2;

    private static final int DIRTY = 0, WET = 1, DRY = 2, IN = 10;

    private static final int WASHER = 1, QUICK = 2, GREEDY = 3, DRYER = 4, SPINNER = 5;
    /** The nearest kind that each kind is, too; none above 0, the machine. */
    private static final int[] NEAREST = {-1, 0, 1, 1, 0, 4};
    private static final int ASK_SIZE = 0, ASK_MARK = 1;
    /** The body that each kind has of its own for an ask; 0: none. */
    private static final int[] SIZE_BODIES = {10, 11, 12, 0, 13, 14};
    private static final int[] MARK_BODIES = {20, 21, 24, 22, 23, 0};

    private final Rows rows = new Rows();
    private final Tape tape = new Tape();
    private final Hall hall = new Hall();
    /** Where all that is foretold, or not yet sure, happens. */
    private final Hall guess = new Hall();
    private final Acts acts = new Acts();
    private final Hall[] images = new Hall[IMAGES];
    private final Orders orders = new Orders();
    private final Asks asks = new Asks();
    /** How many are dry at last, by the set of machines that are open. */
    private final int[] dryByOpen = new int[1 << MOST_MACHINES];
    private int latestFinding;

    public LaundryLoads() {
        for (int k = 0; k < IMAGES; k++) {
            images[k] = new Hall();
        }
    }

    // ---- rows

    public int row(int row, int lane, int n) {
        if (!Rows.isOne(row) || lane < 0 || lane >= Rows.LANES || n > Rows.MOST_ITEMS) {
            return BAD;
        }
        if (n < 0) {
            return found(FOUND_SIZE);
        }
        rows.make(row, lane, n);
        return foundNothing(n);
    }

    public int set(int row, int i, int v) {
        if (!Rows.isOne(row)) {
            return BAD;
        }
        int finding = rows.findingOf(row, i, 1);
        if (finding != 0) {
            return found(finding);
        }
        return foundNothing(rows.put(row, i, v));
    }

    public int copy(int a, int i, int b, int j, int n) {
        if (!Rows.isOne(a) || !Rows.isOne(b)) {
            return BAD;
        }
        if (rows.isMissing(a) || rows.isMissing(b)) {
            return found(FOUND_NULL);
        }
        if (rows.lanes[a] != rows.lanes[b]) {
            return found(FOUND_STORE);
        }
        if (!rows.hasPlaces(a, i, n) || !rows.hasPlaces(b, j, n)) {
            return found(FOUND_PLACE);
        }
        System.arraycopy(rows.items[a], i, rows.items[b], j, n);
        return foundNothing(n);
    }

    public int drop(int row) {
        if (!Rows.isOne(row)) {
            return BAD;
        }
        if (rows.isMissing(row)) {
            return found(FOUND_NULL);
        }
        return foundNothing(rows.remove(row));
    }

    private int found(int finding) {
        latestFinding = finding;
        return FOUND - finding;
    }

    private int foundNothing(int answer) {
        latestFinding = 0;
        return answer;
    }

    // ---- what is told

    public int feed(int letter) {
        if (letter < 0 || letter > 255) {
            return BAD;
        }
        return tape.takeIn(letter) ? tape.length : FULL;
    }

    public int launderette() {
        boolean wellTold = tape.readInto(guess);
        tape.length = 0;
        if (!wellTold) {
            return FAULT_AT - tape.place;
        }
        replaceHall(guess);
        return hall.machines;
    }

    public int fault() {
        return tape.latestFault;
    }

    public int undo() {
        if (acts.kept == 0) {
            return STATE;
        }
        acts.takeBack(hall);
        orders.forget();
        return acts.kept;
    }

    /** Goes ahead of every act. */
    private void beginAct() {
        acts.keep(hall);
        orders.forget();
    }

    private void replaceHall(Hall by) {
        hall.become(by);
        acts.kept = 0;
        orders.forget();
    }

    // ---- what is done

    public int ticks(int n) {
        if (hall.isNone()) {
            return STATE;
        }
        if (n < 1 || n > MOST_ACTS) {
            return BAD;
        }
        if (hall.tick + n > MOST_TICK) {
            return FULL;
        }
        for (int t = 0; t < n; t++) {
            beginAct();
            hall.passTick();
        }
        return hall.whichAre(DRY);
    }

    public int shut(int machine) {
        if (!hall.hasMachine(machine)) {
            return BAD;
        }
        beginAct();
        hall.turn(machine);
        return hall.isOpen(machine) ? 1 : 0;
    }

    public int power(int v) {
        if (hall.isNone()) {
            return STATE;
        }
        if (v < 1 || v > MOST_POWER) {
            return BAD;
        }
        beginAct();
        int before = hall.power;
        hall.power = v;
        return before;
    }

    public int due(int load, int v) {
        if (!hall.hasLoad(load) || v < 0 || v > MOST_DUE) {
            return BAD;
        }
        beginAct();
        int before = hall.dues[load];
        hall.dues[load] = v;
        return before;
    }

    public int again(int load, int size) {
        if (!hall.hasLoad(load) || size < 1 || size > MOST_SIZE) {
            return BAD;
        }
        if (hall.hows[load] != DRY) {
            return STATE;
        }
        beginAct();
        hall.dirty(load, size);
        return hall.whichAre(DIRTY);
    }

    public int machine(int machine, int what) {
        if (!hall.hasMachine(machine)) {
            return BAD;
        }
        switch (what) {
            case 0: return hall.rooms[machine];
            case 1: return hall.slows[machine];
            case 2: return hall.isOpen(machine) ? 1 : 0;
            case 3: return hall.loadIn(machine);
            case 4: return hall.left[machine];
            case 5: return hall.done[machine];
            case 6: return hall.washes(machine) ? 1 : 0;
            default: return BAD;
        }
    }

    public int load(int load, int what) {
        if (!hall.hasLoad(load)) {
            return BAD;
        }
        switch (what) {
            case 0: return hall.sizes[load];
            case 1: return hall.dues[load];
            case 2: return hall.hows[load];
            case 3: return hall.hows[load] == DRY ? hall.ends[load] : NONE;
            case 4: return hall.lateOf(load);
            default: return BAD;
        }
    }

    public int lasts(int machine, int load) {
        if (!hall.hasMachine(machine) || !hall.hasLoad(load)) {
            return BAD;
        }
        return hall.lastsWith(machine, load);
    }

    public int stand(int what) {
        if (hall.isNone()) {
            return STATE;
        }
        switch (what) {
            case 0: return hall.power;
            case 1: return hall.whichAre(DIRTY);
            case 2: return hall.whichAre(WET);
            case 3: return hall.whichAre(DRY);
            case 4: return hall.openBits;
            case 5: return hall.busyBits();
            default: return BAD;
        }
    }

    // ---- foretold

    public int ahead(int load, int n, int what) {
        if (!hall.hasLoad(load) || n < 0 || n > MOST_AHEAD || what < 0 || what > 1) {
            return BAD;
        }
        Hall then = behind(n);
        return what == 0 ? then.hows[load] : then.lateOf(load);
    }

    public int inside(int machine, int n, int what) {
        if (!hall.hasMachine(machine) || n < 0 || n > MOST_AHEAD || what < 0 || what > 2) {
            return BAD;
        }
        Hall then = behind(n);
        switch (what) {
            case 0: return then.loadIn(machine);
            case 1: return then.left[machine];
            default: return then.done[machine];
        }
    }

    public int all(int n, int what) {
        if (hall.isNone()) {
            return STATE;
        }
        if (n < 0 || n > MOST_AHEAD || what < 0 || what > 1) {
            return BAD;
        }
        Hall then = behind(n);
        return what == 0 ? then.whichAre(DRY) : then.lateOfAll();
    }

    public int when(int load, int how) {
        if (!hall.hasLoad(load) || how < 1 || how > 2) {
            return BAD;
        }
        Hall then = asNow();
        for (int n = 0; n <= MOST_AHEAD; n++) {
            boolean reached = how == 1 ? then.isWashed(load) : then.hows[load] == DRY;
            if (reached) {
                return n;
            }
            then.passTick();
        }
        return NONE;
    }

    public int over() {
        if (hall.isNone()) {
            return STATE;
        }
        Hall then = asNow();
        for (int n = 0; n <= MOST_AHEAD; n++) {
            if (then.isAllDry()) {
                return n;
            }
            then.passTick();
        }
        return NONE;
    }

    public int order(int n, int k) {
        if (hall.isNone()) {
            return STATE;
        }
        if (!isPlanned(n) || k < -1) {
            return BAD;
        }
        orders.find(hall, guess, n);
        if (k < 0) {
            return orders.bestLate;
        }
        return k < hall.loads ? orders.best[k] : NONE;
    }

    public int need(int n) {
        if (hall.isNone()) {
            return STATE;
        }
        if (!isPlanned(n)) {
            return BAD;
        }
        for (int v = 1; v <= MOST_POWER; v++) {
            Hall then = asNow();
            then.power = v;
            then.passTicks(n);
            if (then.isAllDry()) {
                return v;
            }
        }
        return NONE;
    }

    public int open(int n, int what) {
        if (hall.isNone()) {
            return STATE;
        }
        if (!isPlanned(n) || what < 0 || what > 1) {
            return BAD;
        }
        int best = NONE;
        int fewest = MOST_MACHINES + 1;
        for (int bits = 0; bits < 1 << hall.machines; bits++) {
            int many = Integer.bitCount(bits);
            if (many < fewest && behindWithOpen(n, bits).isAllDry()) {
                best = bits;
                fewest = many;
            }
        }
        if (best == NONE) {
            return NONE;
        }
        return what == 0 ? fewest : best;
    }

    public int fills(int machine, int what) {
        if (!hall.hasMachine(machine) || what < 0 || what > 2) {
            return BAD;
        }
        int many = 0;
        int inAny = 0;
        int inAll = -1;
        int dry = hall.whichAre(DRY);
        for (int bits = 1; bits < 1 << hall.loads; bits++) {
            if ((bits & dry) == 0 && hall.sizeOfAll(bits) == hall.rooms[machine]) {
                many++;
                inAny |= bits;
                inAll &= bits;
            }
        }
        switch (what) {
            case 0: return many;
            case 1: return many == 0 ? 0 : inAll;
            default: return inAny;
        }
    }

    public int share(int machine, int n) {
        if (!hall.hasMachine(machine) || n < 0 || n > 999) {
            return BAD;
        }
        int doneOfAll = hall.doneOfAll();
        if (doneOfAll <= 0 || hall.done[machine] == 0) {
            return 0;
        }
        int over = n;
        int firstOnes = 0;
        for (int m = 0; m < hall.machines; m++) {
            over -= n * hall.done[m] / doneOfAll;
            if (m < machine && hall.done[m] > 0) {
                firstOnes++;
            }
        }
        return n * hall.done[machine] / doneOfAll + (firstOnes < over ? 1 : 0);
    }

    public int byTurns(int n, int m) {
        if (hall.isNone()) {
            return STATE;
        }
        if (n < 0 || n > 4 || m < 1 || m > 20) {
            return BAD;
        }
        for (int bits = 0; bits < 1 << hall.machines; bits++) {
            dryByOpen[bits] = behindWithOpen(m, bits).howManyAre(DRY);
        }
        for (int turn = n - 1; turn >= 0; turn--) {
            if (turn % 2 == 0) {
                weighShutting();
            } else {
                weighOpening();
            }
        }
        return dryByOpen[hall.openBits];
    }

    /** Goes from great sets down: each looks at smaller ones, as they were. */
    private void weighShutting() {
        for (int bits = (1 << hall.machines) - 1; bits >= 0; bits--) {
            for (int m = 0; m < hall.machines; m++) {
                dryByOpen[bits] = Math.min(dryByOpen[bits], dryByOpen[bits & ~(1 << m)]);
            }
        }
    }

    /** Goes from small sets up: each looks at greater ones, as they were. */
    private void weighOpening() {
        for (int bits = 0; bits < 1 << hall.machines; bits++) {
            for (int m = 0; m < hall.machines; m++) {
                dryByOpen[bits] = Math.max(dryByOpen[bits], dryByOpen[bits | 1 << m]);
            }
        }
    }

    public int who(int machine, int which, int row, int i, int n) {
        if (!hall.hasMachine(machine) || which < 0 || which > 2 || !Rows.isOne(row) || !isTold(n)) {
            return BAD;
        }
        int finding = rows.findingOf(row, i, n);
        if (finding != 0) {
            return found(finding);
        }
        int least = which == 2 ? 0 : 1;
        int most = which == 0 ? SPINNER : which == 1 ? MOST_ROOM : MOST_SLOW;
        int fitting = 0;
        for (int v = least; v <= most; v++) {
            Hall then = asNow();
            then.alter(machine, which, v);
            if (fits(then, row, i, n)) {
                fitting |= 1 << v;
            }
        }
        return foundNothing(fitting);
    }

    public int sizes(int load, int row, int i, int n) {
        if (!hall.hasLoad(load) || !Rows.isOne(row) || !isTold(n)) {
            return BAD;
        }
        if (hall.hows[load] >= IN) {
            return STATE;
        }
        int finding = rows.findingOf(row, i, n);
        if (finding != 0) {
            return found(finding);
        }
        int fitting = 0;
        for (int v = 1; v <= MOST_SIZE; v++) {
            Hall then = asNow();
            then.sizes[load] = v;
            if (fits(then, row, i, n)) {
                fitting |= 1 << v;
            }
        }
        return foundNothing(fitting);
    }

    public long breaks(int load, int n, int p, int what) {
        if (!hall.hasLoad(load) || n < 0 || n > MOST_AHEAD || p < 0 || p > 10 || what < 0 || what > 1) {
            return BAD;
        }
        long above = 0;
        for (int bits = 0; bits < 1 << hall.machines; bits++) {
            long cases = casesOfStayingOpen(bits, p);
            if (cases > 0 && behindWithOpen(n, bits).hows[load] == DRY) {
                above += cases;
            }
        }
        long below = 1;
        for (int m = 0; m < hall.machines; m++) {
            below *= hall.isOpen(m) ? 10 : 1;
        }
        long divisor = Math.max(1, greatestDivisor(above, below));
        return (what == 0 ? above : below) / divisor;
    }

    /** In how many cases just these of the open machines do not break. */
    private long casesOfStayingOpen(int bits, int p) {
        if ((bits & ~hall.openBits) != 0) {
            return 0;
        }
        long cases = 1;
        for (int m = 0; m < hall.machines; m++) {
            if (hall.isOpen(m)) {
                cases *= (bits >> m & 1) == 1 ? 10 - p : p;
            }
        }
        return cases;
    }

    private static long greatestDivisor(long a, long b) {
        long great = a;
        long small = b;
        for (int step = 0; step < 100 && small != 0; step++) {
            long rest = great % small;
            great = small;
            small = rest;
        }
        return great;
    }

    public int drawn(int n, int seed, int what) {
        if (hall.isNone()) {
            return STATE;
        }
        if (n < 0 || n > MOST_AHEAD || seed < 1 || seed > 999999 || what < 0 || what > 1) {
            return BAD;
        }
        Hall then = asNow();
        long x = seed;
        int cameOut = 0;
        for (int t = 0; t < n; t++) {
            x = x * 16807 % 2147483647;
            then.draw((int) x);
            int dryBefore = then.howManyAre(DRY);
            then.passTick();
            cameOut += then.howManyAre(DRY) - dryBefore;
        }
        return what == 0 ? cameOut : then.lateOfAll();
    }

    public int image(int k) {
        if (k < 0 || k >= IMAGES) {
            return BAD;
        }
        if (hall.isNone()) {
            return STATE;
        }
        images[k].become(hall);
        return 1;
    }

    public int restore(int k) {
        if (k < 0 || k >= IMAGES) {
            return BAD;
        }
        if (images[k].isNone()) {
            return STATE;
        }
        replaceHall(images[k]);
        return 1;
    }

    private static boolean isPlanned(int n) {
        return n >= 1 && n <= MOST_PLANNED;
    }

    private static boolean isTold(int n) {
        return n >= 1 && n <= 12;
    }

    private Hall asNow() {
        guess.become(hall);
        return guess;
    }

    private Hall behind(int n) {
        return behindWithOpen(n, hall.openBits);
    }

    private Hall behindWithOpen(int n, int openBits) {
        Hall then = asNow();
        then.openBits = openBits;
        then.passTicks(n);
        return then;
    }

    private boolean fits(Hall then, int row, int i, int n) {
        for (int t = 0; t < n; t++) {
            then.passTick();
            if (then.howManyAre(WET) + 10 * then.howManyAre(DRY) != rows.items[row][i + t]) {
                return false;
            }
        }
        return true;
    }

    // ---- asked

    public int kind(int one) {
        return hall.hasMachine(one) ? hall.kinds[one] : BAD;
    }

    public int as(int one, int kind) {
        if (!hall.hasMachine(one) || kind < 0 || kind > SPINNER) {
            return BAD;
        }
        return isOfKind(hall.kinds[one], kind) ? foundNothing(one) : found(FOUND_KIND);
    }

    private static boolean isOfKind(int own, int kind) {
        int k = own;
        for (int step = 0; step < NEAREST.length && k >= 0; step++) {
            if (k == kind) {
                return true;
            }
            k = NEAREST[k];
        }
        return false;
    }

    public int ask(int one, int what) {
        if (!hall.hasMachine(one) || what < ASK_SIZE || what > ASK_MARK) {
            return BAD;
        }
        return asks.begin(hall, one, what);
    }

    public int trace(int i) {
        return i >= 0 && i < asks.traced ? asks.numbers[i] : NONE;
    }

    public int count(int what) {
        switch (what) {
            case 0: return rows.howMany();
            case 1: return hall.machines;
            case 2: return hall.loads;
            case 3: return hall.tick;
            case 4: return hall.howManyAre(DRY);
            case 5: return hall.doneOfAll();
            case 6: return hall.lateOfAll();
            case 7: return acts.kept;
            case 8: return tape.length;
            default: return BAD;
        }
    }

    public int status() {
        return latestFinding;
    }

    /** The rows, all made at first, so that no call makes one. */
    private static final class Rows {
        static final int ROWS = 8, LANES = 3, MOST_ITEMS = 40;
        static final int MISSING = -1, BYTES = 0, SHORTS = 1;

        final int[] lanes = {MISSING, MISSING, MISSING, MISSING, MISSING, MISSING, MISSING, MISSING};
        final int[] lengths = new int[ROWS];
        final int[][] items = new int[ROWS][MOST_ITEMS];

        static boolean isOne(int row) {
            return row >= 0 && row < ROWS;
        }

        boolean isMissing(int row) {
            return lanes[row] == MISSING;
        }

        /** Looks at n first, and takes it away, not to go beyond the greatest int. */
        boolean hasPlaces(int row, int from, int n) {
            return n >= 0 && n <= lengths[row] && from >= 0 && from <= lengths[row] - n;
        }

        int findingOf(int row, int from, int n) {
            if (isMissing(row)) {
                return FOUND_NULL;
            }
            return hasPlaces(row, from, n) ? 0 : FOUND_PLACE;
        }

        void make(int row, int lane, int n) {
            lanes[row] = lane;
            lengths[row] = n;
            for (int i = 0; i < MOST_ITEMS; i++) {
                items[row][i] = 0;
            }
        }

        int put(int row, int i, int v) {
            int kept = v;
            if (lanes[row] == BYTES) {
                kept = (byte) v;
            } else if (lanes[row] == SHORTS) {
                kept = (short) v;
            }
            items[row][i] = kept;
            return kept;
        }

        int remove(int row) {
            lanes[row] = MISSING;
            return lengths[row];
        }

        int howMany() {
            int many = 0;
            for (int row = 0; row < ROWS; row++) {
                many += isMissing(row) ? 0 : 1;
            }
            return many;
        }
    }

    /** The tape, and the reading of it, token by token. */
    private static final class Tape {
        static final int MOST_BYTES = 110;
        /** Tokens that are no letter or sign; those are told by their bytes. */
        static final int NUMBER = 256, END = 257, NO_TOKEN = 258;
        static final int CANNOT_STAND = 1, NOT_AS_TOLD = 2, NO_ROOM = 3;

        final int[] bytes = new int[MOST_BYTES];
        int length;
        int token;
        /** Where the token begins; at last, where the fault is. */
        int place;
        int next;
        int number;
        int latestFault;

        boolean takeIn(int letter) {
            if (length >= MOST_BYTES) {
                return false;
            }
            bytes[length] = letter;
            length++;
            return true;
        }

        boolean readInto(Hall told) {
            told.clear();
            next = 0;
            toNextToken();
            return readLaw(told) && readMachines(told) && readLoads(told);
        }

        private boolean readLaw(Hall told) {
            if (!passes('l') || !isNumber(1, MOST_POWER)) {
                return false;
            }
            told.power = takeNumber();
            return passes(';');
        }

        private boolean readMachines(Hall told) {
            for (int m = 0; m <= MOST_MACHINES && kindOfLetter(token) > 0; m++) {
                if (m == MOST_MACHINES) {
                    return failed(NO_ROOM);
                }
                if (!readMachine(told)) {
                    return false;
                }
            }
            return told.machines > 0 || failed(CANNOT_STAND);
        }

        private boolean readMachine(Hall told) {
            int kind = kindOfLetter(token);
            toNextToken();
            if (!isNumber(1, MOST_ROOM)) {
                return false;
            }
            int room = takeNumber();
            if (!passes(',') || !isNumber(0, MOST_SLOW)) {
                return false;
            }
            told.addMachine(kind, room, takeNumber());
            return passes(';');
        }

        private boolean readLoads(Hall told) {
            for (int l = 0; l <= MOST_LOADS && token == 'b'; l++) {
                if (l == MOST_LOADS) {
                    return failed(NO_ROOM);
                }
                if (!readLoad(told)) {
                    return false;
                }
            }
            return told.loads > 0 && token == END || failed(CANNOT_STAND);
        }

        private boolean readLoad(Hall told) {
            toNextToken();
            if (!isNumber(1, MOST_SIZE)) {
                return false;
            }
            int size = takeNumber();
            if (!passes(',') || !isNumber(0, MOST_DUE_TOLD)) {
                return false;
            }
            told.addLoad(size, takeNumber());
            return passes(';');
        }

        private static int kindOfLetter(int letter) {
            switch (letter) {
                case 'w': return WASHER;
                case 'q': return QUICK;
                case 'g': return GREEDY;
                case 'd': return DRYER;
                case 's': return SPINNER;
                default: return 0;
            }
        }

        private boolean failed(int fault) {
            latestFault = fault;
            return false;
        }

        private boolean passes(int wanted) {
            if (token != wanted) {
                return failed(CANNOT_STAND);
            }
            toNextToken();
            return true;
        }

        private boolean isNumber(int least, int most) {
            if (token != NUMBER) {
                return failed(CANNOT_STAND);
            }
            return number >= least && number <= most || failed(NOT_AS_TOLD);
        }

        private int takeNumber() {
            int taken = number;
            toNextToken();
            return taken;
        }

        private void toNextToken() {
            place = next;
            if (place >= length) {
                token = END;
            } else if (isFigure(place)) {
                readFigures();
            } else {
                // A byte that is no token stands nowhere, like a letter that has no place.
                token = bytes[place];
                next = place + 1;
            }
        }

        private void readFigures() {
            number = 0;
            while (next < length && isFigure(next)) {
                number = number * 10 + bytes[next] - '0';
                next++;
            }
            token = next - place > 2 ? NO_TOKEN : NUMBER;
        }

        private boolean isFigure(int at) {
            return bytes[at] >= '0' && bytes[at] <= '9';
        }
    }

    /** A launderette as it stands at a tick; without machines: none. */
    private static final class Hall {
        static final int NOBODY = -1;

        int power;
        int tick;
        int machines;
        int loads;
        int openBits;
        final int[] kinds = new int[MOST_MACHINES];
        final int[] rooms = new int[MOST_MACHINES];
        final int[] slows = new int[MOST_MACHINES];
        final int[] holds = new int[MOST_MACHINES];
        final int[] left = new int[MOST_MACHINES];
        final int[] done = new int[MOST_MACHINES];
        final int[] sizes = new int[MOST_LOADS];
        final int[] dues = new int[MOST_LOADS];
        final int[] hows = new int[MOST_LOADS];
        final int[] ends = new int[MOST_LOADS];
        /** The loads in the order in which they go. */
        final int[] ranks = new int[MOST_LOADS];

        void clear() {
            power = 0;
            tick = 0;
            machines = 0;
            loads = 0;
            openBits = 0;
        }

        void become(Hall other) {
            power = other.power;
            tick = other.tick;
            machines = other.machines;
            loads = other.loads;
            openBits = other.openBits;
            System.arraycopy(other.kinds, 0, kinds, 0, MOST_MACHINES);
            System.arraycopy(other.rooms, 0, rooms, 0, MOST_MACHINES);
            System.arraycopy(other.slows, 0, slows, 0, MOST_MACHINES);
            System.arraycopy(other.holds, 0, holds, 0, MOST_MACHINES);
            System.arraycopy(other.left, 0, left, 0, MOST_MACHINES);
            System.arraycopy(other.done, 0, done, 0, MOST_MACHINES);
            System.arraycopy(other.sizes, 0, sizes, 0, MOST_LOADS);
            System.arraycopy(other.dues, 0, dues, 0, MOST_LOADS);
            System.arraycopy(other.hows, 0, hows, 0, MOST_LOADS);
            System.arraycopy(other.ends, 0, ends, 0, MOST_LOADS);
            System.arraycopy(other.ranks, 0, ranks, 0, MOST_LOADS);
        }

        void addMachine(int kind, int room, int slow) {
            if (machines >= MOST_MACHINES) {
                return;
            }
            kinds[machines] = kind;
            rooms[machines] = room;
            slows[machines] = slow;
            holds[machines] = NOBODY;
            left[machines] = 0;
            done[machines] = 0;
            openBits |= 1 << machines;
            machines++;
        }

        void addLoad(int size, int due) {
            if (loads >= MOST_LOADS) {
                return;
            }
            dues[loads] = due;
            ranks[loads] = loads;
            dirty(loads, size);
            loads++;
        }

        boolean isNone() {
            return machines == 0;
        }

        boolean hasMachine(int m) {
            return m >= 0 && m < machines;
        }

        boolean hasLoad(int l) {
            return l >= 0 && l < loads;
        }

        boolean isOpen(int m) {
            return (openBits >> m & 1) == 1;
        }

        void turn(int m) {
            openBits ^= 1 << m;
        }

        void dirty(int l, int size) {
            sizes[l] = size;
            hows[l] = DIRTY;
            ends[l] = 0;
        }

        /** Makes a machine another one, with what is in it as it was. */
        void alter(int m, int which, int v) {
            switch (which) {
                case 0: kinds[m] = v; break;
                case 1: rooms[m] = v; break;
                default: slows[m] = v; break;
            }
        }

        boolean washes(int m) {
            return kinds[m] <= GREEDY;
        }

        int lastsWith(int m, int l) {
            int washing = sizes[l] + slows[m];
            int drying = sizes[l] / 2 + slows[m] + 1;
            switch (kinds[m]) {
                case QUICK: return Math.max(1, washing / 2);
                case GREEDY: return washing + done[m] / 3;
                case DRYER: return drying;
                case SPINNER: return Math.max(1, drying - 1);
                default: return washing;
            }
        }

        void passTick() {
            int busy = 0;
            for (int m = 0; m < machines; m++) {
                if (holds[m] != NOBODY) {
                    left[m]--;
                    if (left[m] <= 0) {
                        takeOut(m);
                    } else {
                        busy++;
                    }
                }
            }
            for (int m = 0; m < machines && busy < power; m++) {
                if (holds[m] == NOBODY && isOpen(m)) {
                    int l = waitingFor(m);
                    if (l != NOBODY) {
                        putIn(m, l);
                        busy++;
                    }
                }
            }
            tick++;
        }

        /**
         * As many ticks one by one, but for those in which nothing can happen:
         * behind a tick nothing can go in till something comes out.
         */
        void passTicks(int n) {
            int rest = n;
            while (rest > 0) {
                passTick();
                rest--;
                int quiet = quietTicks(rest);
                passQuietTicks(quiet);
                rest -= quiet;
            }
        }

        private int quietTicks(int most) {
            int quiet = most;
            for (int m = 0; m < machines; m++) {
                if (holds[m] != NOBODY) {
                    quiet = Math.min(quiet, left[m] - 1);
                }
            }
            return Math.max(0, quiet);
        }

        private void passQuietTicks(int n) {
            tick += n;
            for (int m = 0; m < machines; m++) {
                if (holds[m] != NOBODY) {
                    left[m] -= n;
                }
            }
        }

        private void takeOut(int m) {
            int l = holds[m];
            if (washes(m)) {
                hows[l] = WET;
            } else {
                hows[l] = DRY;
                ends[l] = tick;
            }
            holds[m] = NOBODY;
            left[m] = 0;
            done[m] = Math.min(MOST_DONE, done[m] + 1);
        }

        private void putIn(int m, int l) {
            holds[m] = l;
            hows[l] = IN + m;
            left[m] = lastsWith(m, l);
        }

        private int waitingFor(int m) {
            int wanted = washes(m) ? DIRTY : WET;
            int room = rooms[m];
            for (int k = 0; k < loads; k++) {
                int l = ranks[k];
                if (hows[l] == wanted && sizes[l] <= room) {
                    return l;
                }
            }
            return NOBODY;
        }

        /** What a draw does ahead of a tick. */
        void draw(int x) {
            if (loads == 0 || machines == 0) {
                return;
            }
            int l = x % loads;
            if (hows[l] == DRY) {
                dirty(l, x % 9 + 1);
                dues[l] = Math.min(MOST_DUE, tick + x % 20);
            } else if (x % 3 == 0) {
                turn(x % machines);
            }
        }

        int loadIn(int m) {
            return holds[m] == NOBODY ? NONE : holds[m];
        }

        boolean isWashed(int l) {
            return hows[l] >= IN ? !washes(hows[l] - IN) : hows[l] != DIRTY;
        }

        int lateOf(int l) {
            int till = hows[l] == DRY ? ends[l] : tick;
            return Math.max(0, till - dues[l]);
        }

        int lateOfAll() {
            int late = 0;
            for (int l = 0; l < loads; l++) {
                late += lateOf(l);
            }
            return late;
        }

        int whichAre(int how) {
            int bits = 0;
            for (int l = 0; l < loads; l++) {
                if (hows[l] == how) {
                    bits |= 1 << l;
                }
            }
            return bits;
        }

        int howManyAre(int how) {
            return Integer.bitCount(whichAre(how));
        }

        boolean isAllDry() {
            return howManyAre(DRY) == loads;
        }

        int busyBits() {
            int bits = 0;
            for (int m = 0; m < machines; m++) {
                if (holds[m] != NOBODY) {
                    bits |= 1 << m;
                }
            }
            return bits;
        }

        int doneOfAll() {
            int sum = 0;
            for (int m = 0; m < machines; m++) {
                sum += done[m];
            }
            return sum;
        }

        int sizeOfAll(int bits) {
            int sum = 0;
            for (int l = 0; l < loads; l++) {
                sum += (bits >> l & 1) * sizes[l];
            }
            return sum;
        }
    }

    /** The launderette as it was ahead of each of the latest acts. */
    private static final class Acts {
        final Hall[] before = new Hall[MOST_ACTS];
        int kept;
        private int newest;

        Acts() {
            for (int i = 0; i < MOST_ACTS; i++) {
                before[i] = new Hall();
            }
        }

        void keep(Hall hall) {
            newest = (newest + 1) % MOST_ACTS;
            before[newest].become(hall);
            kept = Math.min(MOST_ACTS, kept + 1);
        }

        void takeBack(Hall hall) {
            hall.become(before[newest]);
            newest = (newest + MOST_ACTS - 1) % MOST_ACTS;
            kept--;
        }
    }

    /** The best order; kept till something changes, as it is asked for load by load. */
    private static final class Orders {
        static final int ALL_ORDERS = 720;

        final int[] best = new int[MOST_LOADS];
        int bestLate;
        private int bestDry;
        private int foundFor;
        private final int[] tried = new int[MOST_LOADS];

        void forget() {
            foundFor = 0;
        }

        void find(Hall now, Hall guess, int n) {
            if (foundFor == n) {
                return;
            }
            System.arraycopy(now.ranks, 0, tried, 0, MOST_LOADS);
            tryOne(now, guess, n, true);
            // No load gets less late than it is, so this is as good as any.
            int leastLate = now.lateOfAll();
            for (int i = 1; i < ALL_ORDERS && (bestLate > leastLate || bestDry < now.loads); i++) {
                if (!toNextOrder(now.loads)) {
                    break;
                }
                tryOne(now, guess, n, false);
            }
            foundFor = n;
        }

        private void tryOne(Hall now, Hall guess, int n, boolean first) {
            guess.become(now);
            System.arraycopy(tried, 0, guess.ranks, 0, MOST_LOADS);
            guess.passTicks(n);
            int late = guess.lateOfAll();
            int dry = guess.howManyAre(DRY);
            if (first || late < bestLate || late == bestLate && dry > bestDry) {
                bestLate = late;
                bestDry = dry;
                System.arraycopy(tried, 0, best, 0, MOST_LOADS);
            }
        }

        /** The next order by numbers: the shortest tail that can grow grows by least. */
        private boolean toNextOrder(int n) {
            int at = n - 2;
            while (at >= 0 && tried[at] > tried[at + 1]) {
                at--;
            }
            if (at < 0) {
                return false;
            }
            int with = n - 1;
            while (with > at + 1 && tried[with] < tried[at]) {
                with--;
            }
            swap(at, with);
            int low = at + 1;
            int high = n - 1;
            while (low < high) {
                swap(low, high);
                low++;
                high--;
            }
            return true;
        }

        private void swap(int a, int b) {
            int kept = tried[a];
            tried[a] = tried[b];
            tried[b] = kept;
        }
    }

    /** The bodies of asks, and the trace that they leave. */
    private static final class Asks {
        static final int MOST_TRACED = 16, MOST_DEEP = 12;

        final int[] numbers = new int[MOST_TRACED];
        int traced;

        int begin(Hall hall, int m, int ask) {
            traced = 0;
            return answer(hall, m, bodyFor(ask, hall.kinds[m]), 0);
        }

        private static int bodyFor(int ask, int kind) {
            int body = 0;
            int k = kind;
            for (int step = 0; step < NEAREST.length && k >= 0 && body == 0; step++) {
                body = ask == ASK_SIZE ? SIZE_BODIES[k] : MARK_BODIES[k];
                k = NEAREST[k];
            }
            return body;
        }

        private int answer(Hall hall, int m, int body, int depth) {
            if (depth > MOST_DEEP) {
                return 0;
            }
            leave(body);
            int deeper = depth + 1;
            switch (body) {
                case 10: return hall.rooms[m];
                case 11: return answer(hall, m, 10, deeper) + answer(hall, m, bodyFor(ASK_MARK, hall.kinds[m]), deeper);
                case 12: return -answer(hall, m, 11, deeper);
                case 13: return answer(hall, m, 10, deeper) - 100;
                case 14: return answer(hall, m, 13, deeper) * 2;
                case 20: return m;
                case 21: return answer(hall, m, 20, deeper) + hall.done[m];
                case 22: return answer(hall, m, 21, deeper) - 1000;
                case 23: return answer(hall, m, 20, deeper) - answer(hall, m, bodyFor(ASK_SIZE, hall.kinds[m]), deeper);
                case 24: return answer(hall, m, 21, deeper) * 2;
                default: return 0;
            }
        }

        private void leave(int body) {
            if (traced < MOST_TRACED) {
                numbers[traced] = body;
                traced++;
            }
        }
    }
}
