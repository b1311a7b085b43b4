/**
 * A bench where batches of steps are run on vials: see the document for its promises.
 *
 * What is left early (by a skip, a failure, a stop ..) is told outwards as a Way that each
 * method answers, so that every valve, heater and lamp is shut in one place, whatever the way.
 */
public final class BenchRuns {
    public static final int OUTSIDE = -1, FULL = -2, STATE = -3, NONE = -4, FAILED = -10, TIRED = -11;

    private static final int VIALS = 8, VIALS_AT_FIRST = 4, MOST_VIAL_NUMBER = 9, MOST_DROPS = 1000;
    private static final int BATCHES = 4, ROUNDS = 6, STEPS = 8, MOST_LAMPS = 200;
    private static final int TOOLS = 6, LAID_PLACES = 4, MOST_LAID = 99;
    private static final int BOX_PLACES = 18, TRACE_PLACES = 400, NOTED_PLACES = 24, CHAIN_PLACES = 4;
    private static final int ABSENT = -1;

    private static final int PLAIN = 0, LENIENT = 1, STERN = 2;
    private static final int BRUSH = 1, ANY_SORT = 2;
    private static final int OF_RACK = 0, OF_BOX = 1, OF_GRID = 2, OF_FIRST_ROW = 3;
    private static final int USES = 0, GRIPS = 1, SORT = 2;

    private static final int ADD = 0, DRAW = 1, SHARE = 2, POUR = 3, SKIP = 4, BREAK = 5, STOP = 6;
    private static final int FAIL = 7, LACK = 8, AGAIN = 9, USE = 10, GRIP = 11, RACK = 12, BOX = 13;
    private static final int GRID = 14, PUT = 15, COUNT = 16, RAISE = 17;
    private static final int[] MOST_N = {
        200, 200, 200, 9, 200, 200, 200, 9, 200, 200, 9, 9, 40, 60, 35, 99, 2, 3
    };

    private static final int OVER = 1, SHORT = 2, ZERO = 3, INDEX = 4, NOTHING = 5, SIZE = 6, CAST = 7;
    private static final int STORE = 8, BY_FAIL = 10, BY_STERN = 20, BY_WRAPPING = 30, BY_MACHINE = 100;
    private static final int BY_STOP = 100;

    private static final int OPENED = 1, SHUT = 2, ON = 3, OFF = 4, LIT = 5, OUT = 6;
    private static final int TOLD_NOTED = 6, TOLD_TRACE = 7;

    private final int[] vialDrops = new int[VIALS];
    private final Batch[] batches = new Batch[BATCHES];
    private final Tool[] tools = new Tool[TOOLS];
    private final int[] laid = new int[LAID_PLACES];
    private final Stock stock = new Stock();
    private final Log log = new Log();
    private int stoppedBy = 0;

    public BenchRuns() {
        for (int v = VIALS_AT_FIRST; v < VIALS; v++) {
            vialDrops[v] = ABSENT;
        }
        for (int b = 0; b < BATCHES; b++) {
            batches[b] = new Batch();
        }
        for (int t = 0; t < TOOLS; t++) {
            tools[t] = new Tool();
        }
    }

    public int vial(int vial, int drops) {
        if (!within(vial, 0, VIALS - 1) || !within(drops, ABSENT, MOST_DROPS)) {
            return OUTSIDE;
        }
        int before = orNone(vialDrops[vial]);
        vialDrops[vial] = drops;
        return before;
    }

    public int batch(int batch, int mode) {
        if (!within(batch, 0, BATCHES - 1) || !within(mode, PLAIN, STERN)) {
            return OUTSIDE;
        }
        int before = batches[batch].roundCount;
        batches[batch].beginAnew(mode);
        return before;
    }

    public int round(int batch, int vial) {
        if (!within(batch, 0, BATCHES - 1) || !within(vial, 0, MOST_VIAL_NUMBER)) {
            return OUTSIDE;
        }
        return batches[batch].addRound(vial);
    }

    public int step(int batch, int kind, int n) {
        if (!within(batch, 0, BATCHES - 1) || !within(kind, ADD, RAISE) || !within(n, 0, MOST_N[kind])) {
            return OUTSIDE;
        }
        int rounds = batches[batch].roundCount;
        if (rounds == 0) {
            return STATE;
        }
        return batches[batch].rounds[rounds - 1].addStep(kind, n);
    }

    public int tool(int tool, int sort) {
        if (!within(tool, 0, TOOLS - 1) || !within(sort, ABSENT, BRUSH)) {
            return OUTSIDE;
        }
        int before = orNone(tools[tool].sort);
        tools[tool].beginAnew(sort);
        return before;
    }

    public int lay(int k, int number) {
        if (!within(k, 0, LAID_PLACES - 1) || !within(number, 0, MOST_LAID)) {
            return OUTSIDE;
        }
        int before = laid[k];
        laid[k] = number;
        return before;
    }

    public int about(int tool, int what) {
        if (!within(tool, 0, TOOLS - 1) || !within(what, USES, SORT)) {
            return OUTSIDE;
        }
        Tool asked = tools[tool];
        if (asked.sort == ABSENT) {
            return STATE;
        }
        if (what == SORT) {
            return asked.sort;
        }
        return what == GRIPS ? asked.grip : asked.uses;
    }

    public int places(int what) {
        return within(what, OF_RACK, OF_FIRST_ROW) ? stock.sizeOf(what) : OUTSIDE;
    }

    public int box(int i) {
        return within(i, 0, stock.boxSize - 1) ? stock.boxTools[i] : NONE;
    }

    public int run(int first, int last, boolean wrapped) {
        if (!within(first, 0, BATCHES - 1) || !within(last, first, BATCHES - 1)) {
            return OUTSIDE;
        }
        log.beginAnew();
        for (int b = first; b <= last; b++) {
            Way way = doBatch(batches[b]);
            if (way == Way.FAILURE) {
                if (wrapped) {
                    log.failInStead(BY_WRAPPING + b);
                }
                return FAILED;
            }
            if (way == Way.STOP) {
                return BY_STOP + stoppedBy;
            }
            if (way == Way.TIRED) {
                return TIRED;
            }
        }
        return last - first + 1;
    }

    public int why(int k) {
        // The chain is kept from the innermost failure outwards, and asked for from the outermost.
        return within(k, 0, log.chainLength - 1) ? log.chain[log.chainLength - 1 - k] : NONE;
    }

    public int told(int what) {
        if (!within(what, 0, TOLD_TRACE)) {
            return OUTSIDE;
        }
        if (what == TOLD_TRACE) {
            return log.eventCount;
        }
        return what == TOLD_NOTED ? log.notedCount : log.countOf[what + OPENED];
    }

    public int trace(int k) {
        return within(k, 0, Math.min(log.eventCount, TRACE_PLACES) - 1) ? log.events[k] : NONE;
    }

    public int noted(int k) {
        return within(k, 0, log.notedCount - 1) ? log.notedNumbers[k] : NONE;
    }

    public int drops(int vial) {
        return within(vial, 0, VIALS - 1) ? orNone(vialDrops[vial]) : OUTSIDE;
    }

    public int sum() {
        int all = 0;
        for (int drops : vialDrops) {
            if (drops != ABSENT) {
                all += drops;
            }
        }
        return all;
    }

    private static boolean within(int number, int least, int most) {
        return number >= least && number <= most;
    }

    private static int orNone(int held) {
        return held == ABSENT ? NONE : held;
    }

    private Way doBatch(Batch batch) {
        Way way = Way.ONWARD;
        log.mark(OPENED);
        for (int r = 0; r < batch.roundCount && way == Way.ONWARD; r++) {
            way = doRound(batch.rounds[r]);
            if (way == Way.SKIP) {
                way = Way.ONWARD;
            } else if (way == Way.FAILURE) {
                way = takeFailure(batch.mode, r);
            }
        }
        log.mark(SHUT);
        return way == Way.BREAK ? Way.ONWARD : way;
    }

    private Way takeFailure(int mode, int round) {
        if (mode == LENIENT) {
            log.noteFailure();
            return Way.ONWARD;
        }
        if (mode == STERN) {
            log.failInStead(BY_STERN + round);
        }
        return Way.FAILURE;
    }

    private Way doRound(Round round) {
        if (round.vial >= VIALS) {
            return log.fail(INDEX);
        }
        if (vialDrops[round.vial] == ABSENT) {
            return log.fail(NOTHING);
        }
        log.mark(ON);
        Way way = doSteps(round);
        log.mark(OFF);
        return way;
    }

    private Way doSteps(Round round) {
        int next = 0;
        int agains = 0;
        // Each turn lights a lamp, so the lamps of a run end this before the turns do.
        for (int turn = 0; turn <= MOST_LAMPS && next < round.stepCount; turn++) {
            if (log.countOf[LIT] >= MOST_LAMPS) {
                return Way.TIRED;
            }
            int kind = round.kinds[next];
            int n = round.numbers[next];
            log.mark(LIT);
            Way way = kind < USE ? doVialStep(kind, n, round.vial, agains) : doBenchStep(kind, n, round.vial);
            log.mark(OUT);
            if (way == Way.ANEW) {
                agains++;
                next = 0;
            } else if (way == Way.ONWARD) {
                next++;
            } else {
                return way;
            }
        }
        return Way.ONWARD;
    }

    private Way doVialStep(int kind, int n, int vial, int agains) {
        switch (kind) {
            case ADD:
                return addDrops(vial, n);
            case DRAW:
                return drawDrops(vial, n);
            case SHARE:
                return shareDrops(vial, n);
            case POUR:
                return pourDrops(vial, n);
            case SKIP:
                return Way.SKIP;
            case BREAK:
                return Way.BREAK;
            case STOP:
                stoppedBy = n;
                return Way.STOP;
            case FAIL:
                return log.fail(BY_FAIL + n);
            case LACK:
                return vialDrops[vial] < n ? Way.SKIP : Way.ONWARD;
            case AGAIN:
                return agains < n ? Way.ANEW : Way.ONWARD;
            default:
                return Way.ONWARD;
        }
    }

    private Way doBenchStep(int kind, int n, int vial) {
        switch (kind) {
            case USE:
                return useTool(n);
            case GRIP:
                return gripTool(n, vialDrops[vial]);
            case RACK:
                return stock.newRack(n - 10) ? Way.ONWARD : log.fail(SIZE);
            case BOX:
                return stock.newBox(n / 3 - 2, n % 3) ? Way.ONWARD : log.fail(SIZE);
            case GRID:
                return stock.newGrid(n / 6 - 1, n % 6 - 1) ? Way.ONWARD : log.fail(SIZE);
            case PUT:
                return putTool(n % 10, n / 10);
            case COUNT:
                return stock.sizeOf(n) == NONE ? log.fail(NOTHING) : addDrops(vial, stock.sizeOf(n));
            case RAISE:
                return laid[n] == 0 ? log.fail(NOTHING) : log.failAsLaid(laid[n]);
            default:
                return Way.ONWARD;
        }
    }

    private Way addDrops(int vial, int n) {
        if (vialDrops[vial] + n > MOST_DROPS) {
            return log.fail(OVER);
        }
        vialDrops[vial] += n;
        return Way.ONWARD;
    }

    private Way drawDrops(int vial, int n) {
        if (vialDrops[vial] < n) {
            return log.fail(SHORT);
        }
        vialDrops[vial] -= n;
        return Way.ONWARD;
    }

    private Way shareDrops(int vial, int n) {
        if (n == 0) {
            return log.fail(ZERO);
        }
        vialDrops[vial] /= n;
        return Way.ONWARD;
    }

    private Way pourDrops(int from, int to) {
        if (to >= VIALS) {
            return log.fail(INDEX);
        }
        if (vialDrops[to] == ABSENT) {
            return log.fail(NOTHING);
        }
        if (to == from) {
            return Way.ONWARD;
        }
        if (vialDrops[to] + vialDrops[from] > MOST_DROPS) {
            return log.fail(OVER);
        }
        vialDrops[to] += vialDrops[from];
        vialDrops[from] = 0;
        return Way.ONWARD;
    }

    private Way useTool(int tool) {
        if (tool >= TOOLS) {
            return log.fail(INDEX);
        }
        if (tools[tool].sort == ABSENT) {
            return log.fail(NOTHING);
        }
        tools[tool].uses++;
        return Way.ONWARD;
    }

    private Way gripTool(int tool, int more) {
        if (tool >= TOOLS) {
            return log.fail(INDEX);
        }
        if (tools[tool].sort == BRUSH) {
            return log.fail(CAST);
        }
        if (tools[tool].sort == ABSENT) {
            return log.fail(NOTHING);
        }
        tools[tool].grip += more;
        return Way.ONWARD;
    }

    private Way putTool(int tool, int place) {
        if (tool >= TOOLS) {
            return log.fail(INDEX);
        }
        if (stock.boxSize == NONE) {
            return log.fail(NOTHING);
        }
        if (place >= stock.boxSize) {
            return log.fail(INDEX);
        }
        int sort = tools[tool].sort;
        if (!stock.boxTakes(sort)) {
            return log.fail(STORE);
        }
        stock.boxTools[place] = sort == ABSENT ? NONE : tool;
        return Way.ONWARD;
    }

    /** How a step, a round or a batch is left. */
    private enum Way { ONWARD, SKIP, ANEW, BREAK, STOP, FAILURE, TIRED }

    private static final class Batch {
        final Round[] rounds = new Round[ROUNDS];
        int roundCount = 0;
        int mode = PLAIN;

        Batch() {
            for (int r = 0; r < ROUNDS; r++) {
                rounds[r] = new Round();
            }
        }

        void beginAnew(int newMode) {
            mode = newMode;
            roundCount = 0;
        }

        int addRound(int vial) {
            if (roundCount >= ROUNDS) {
                return FULL;
            }
            rounds[roundCount].beginAnew(vial);
            return roundCount++;
        }
    }

    private static final class Round {
        final int[] kinds = new int[STEPS];
        final int[] numbers = new int[STEPS];
        int stepCount = 0;
        int vial = 0;

        void beginAnew(int newVial) {
            vial = newVial;
            stepCount = 0;
        }

        int addStep(int kind, int n) {
            if (stepCount >= STEPS) {
                return FULL;
            }
            kinds[stepCount] = kind;
            numbers[stepCount] = n;
            return stepCount++;
        }
    }

    private static final class Tool {
        int sort = ABSENT;
        int uses = 0;
        int grip = 0;

        void beginAnew(int newSort) {
            sort = newSort;
            uses = 0;
            grip = 0;
        }
    }

    /** The rack, the box and the grid: sizes are NONE while there is no such thing. */
    private static final class Stock {
        // Only the number of a tool in the box can be asked for, so the number is all that lies here.
        final int[] boxTools = new int[BOX_PLACES];
        int rackSize = NONE;
        int boxSize = NONE;
        int boxSort = ANY_SORT;
        int gridRows = NONE;
        int gridRowSize = NONE;

        boolean newRack(int size) {
            if (size < 0) {
                return false;
            }
            rackSize = size;
            return true;
        }

        boolean newBox(int size, int sort) {
            if (size < 0 || size > BOX_PLACES) {
                return false;
            }
            for (int i = 0; i < size; i++) {
                boxTools[i] = NONE;
            }
            boxSize = size;
            boxSort = sort;
            return true;
        }

        boolean newGrid(int rows, int rowSize) {
            if (rows < 0 || rowSize < 0) {
                return false;
            }
            gridRows = rows;
            gridRowSize = rowSize;
            return true;
        }

        boolean boxTakes(int sort) {
            return sort == ABSENT || boxSort == ANY_SORT || sort == boxSort;
        }

        int sizeOf(int what) {
            switch (what) {
                case OF_RACK:
                    return rackSize;
                case OF_BOX:
                    return boxSize;
                case OF_GRID:
                    return gridRows;
                case OF_FIRST_ROW:
                    return gridRows > 0 ? gridRowSize : NONE;
                default:
                    return NONE;
            }
        }
    }

    /** What the latest run did: its events, the failures that were noted, the one by which it failed. */
    private static final class Log {
        final int[] countOf = new int[OUT + 1];
        final int[] events = new int[TRACE_PLACES];
        int eventCount = 0;
        final int[] notedNumbers = new int[NOTED_PLACES];
        int notedCount = 0;
        final int[] chain = new int[CHAIN_PLACES];
        int chainLength = 0;

        void beginAnew() {
            for (int event = OPENED; event <= OUT; event++) {
                countOf[event] = 0;
            }
            eventCount = 0;
            notedCount = 0;
            chainLength = 0;
        }

        void mark(int event) {
            countOf[event]++;
            if (eventCount < TRACE_PLACES) {
                events[eventCount] = event;
            }
            eventCount++;
        }

        Way fail(int number) {
            boolean refusedByMachine = number >= ZERO && number <= STORE;
            chain[0] = refusedByMachine ? BY_MACHINE + number : number;
            chain[1] = number;
            chainLength = refusedByMachine ? 2 : 1;
            return Way.FAILURE;
        }

        Way failAsLaid(int number) {
            chain[0] = number;
            chainLength = 1;
            return Way.FAILURE;
        }

        void failInStead(int number) {
            if (chainLength < CHAIN_PLACES) {
                chain[chainLength] = number;
                chainLength++;
            }
        }

        void noteFailure() {
            if (chainLength > 0 && notedCount < NOTED_PLACES) {
                notedNumbers[notedCount] = chain[chainLength - 1];
                notedCount++;
            }
            chainLength = 0;
        }
    }
}
