/** The sentences on failures, on what stands behind them, on the trace and on the codes. */
public final class FailureSentencesTest extends Sentences {
    private static final String FIRST = "Of several the first of: INDEX of the TOOL (6 to 9), CAST, NOTHING, INDEX of"
        + " the place (PUT), STORE; OVER.";
    private static final String NOTHING_DONE = "What FAILS by itself has done nothing";
    private static final String BEHIND = "Behind 3 to 8 stands the machine's own, told as 103 to 108 (not behind what"
        + " is LAID).";
    private static final String IS_NOTHING = "5 NOTHING (a VIAL, a TOOL that is USED or has to GRIP, a RACK, BOX, GRID"
        + " that is not there; nothing is LAID)";
    private static final String CODES = "Codes, of several the first one that a call names: OUTSIDE -1 (a number is not"
        + " as told), FULL -2, STATE -3; then nothing changes.";

    private FailureSentencesTest() {
    }

    public static void main(String[] args) {
        kindsOfFailure();
        firstOfSeveral();
        nothingDone();
        pourIntoItself();
        machinesOwn();
        notBehindOthers();
        notBehindWhatIsLaid();
        outwards();
        plain();
        lenient();
        stern();
        wrapped();
        wrappedWithoutFailure();
        thenTheRunFailed();
        trace();
        codes();
        DUE.end();
    }

    private static void kindsOfFailure() {
        over();
        overByCount();
        tooShort();
        zero();
        index();
        indexOfPlace();
        nothingOfVials();
        nothingOfTools();
        nothingOfSizes();
        nothingLaid();
        size();
        cast();
        store();
        byFail();
        laid();
    }

    private static void firstOfSeveral() {
        toolIndexFirst();
        nothingBeforePlace();
        placeBeforeStore();
        overLast();
    }

    private static void codes() {
        constants();
        outsideBeforeState();
        outsideBeforeFull();
        nothingChanges();
        noneChanges();
    }

    private static void over() {
        DUE.sentence("1 OVER (ADD, POUR: there would be more than 1000 DROPS)");
        BenchRuns x = new BenchRuns();
        DUE.due("ADD to 1000", runOn(x, 999, ADD, 1), 1);
        dueFailed("ADD to 1001", x, runOn(x, 1000, ADD, 1), OVER);
        dueFailed("ADD to 1001", x, runOn(x, 801, ADD, 200), OVER);
        dueFailed("ADD to 1200", x, runOn(x, 1000, ADD, 200), OVER);
        x.vial(1, 999);
        DUE.due("POUR to 1000", runOn(x, 1, POUR, 1), 1);
        dueFailed("POUR to 1001", x, runOn(x, 1, POUR, 1), OVER);
        dueFailed("POUR to 2000", x, runOn(x, 1000, POUR, 1), OVER);
    }

    /** OVER names only ADD and POUR: that COUNT fails so, too, is read from the bound on DROPS. */
    private static void overByCount() {
        DUE.sentence("one that is has DROPS (0 to 1000)", "COUNT");
        BenchRuns x = new BenchRuns();
        runOn(x, 0, RACK, 11, BOX, 60, GRID, 35);
        int[] sizes = {1, 18, 4};
        for (int n = 0; n < 3; n++) {
            DUE.due("COUNT " + n + " to 1000", runOn(x, 1000 - sizes[n], COUNT, n), 1);
            dueFailed("COUNT " + n + " to 1001", x, runOn(x, 1001 - sizes[n], COUNT, n), OVER);
            DUE.due("COUNT " + n + ": drops(0)", x.drops(0), 1001 - sizes[n]);
        }
    }

    private static void tooShort() {
        DUE.sentence("2 SHORT (DRAW: there are fewer)");
        BenchRuns x = new BenchRuns();
        DUE.due("0 of 0", runOn(x, 0, DRAW, 0), 1);
        dueFailed("1 of 0", x, runOn(x, 0, DRAW, 1), SHORT);
        DUE.due("200 of 200", runOn(x, 200, DRAW, 200), 1);
        dueFailed("200 of 199", x, runOn(x, 199, DRAW, 200), SHORT);
    }

    private static void zero() {
        DUE.sentence("3 ZERO (SHARE by 0)");
        BenchRuns x = new BenchRuns();
        dueFailed("0 by 0", x, runOn(x, 0, SHARE, 0), ZERO, 103);
        dueFailed("1000 by 0", x, runOn(x, 1000, SHARE, 0), ZERO, 103);
        DUE.due("0 by 1", runOn(x, 0, SHARE, 1), 1);
    }

    private static void index() {
        DUE.sentence("4 INDEX (a ROUND's VIAL 8, 9; POUR to one)");
        for (int v = 8; v < 10; v++) {
            BenchRuns x = new BenchRuns();
            Due.round(x, 1, v);
            dueFailed("a ROUND's VIAL " + v, x, x.run(1, 1, false), INDEX, 104);
            dueFailed("POUR to " + v, x, runOn(x, 0, POUR, v), INDEX, 104);
        }
        BenchRuns x = new BenchRuns();
        x.vial(7, 0);
        Due.round(x, 1, 7);
        DUE.due("a ROUND's VIAL 7", x.run(1, 1, false), 1);
        DUE.due("POUR to 7", runOn(x, 0, POUR, 7), 1);
    }

    private static void indexOfPlace() {
        DUE.sentence(FIRST, "INDEX of the place");
        BenchRuns x = new BenchRuns();
        x.tool(0, CLAMP);
        dueFailed("place 0 of none", x, runOn(x, 0, BOX, 8, PUT, 0), INDEX, 104);
        DUE.due("place 0 of one", runOn(x, 0, BOX, 11, PUT, 0), 1);
        dueFailed("place 1 of one", x, runOn(x, 0, PUT, 10), INDEX, 104);
        DUE.due("place 8 of nine", runOn(x, 0, BOX, 35, PUT, 80), 1);
        dueFailed("place 9 of nine", x, runOn(x, 0, PUT, 90), INDEX, 104);
        dueFailed("no tool at place 9 of nine", x, runOn(x, 0, PUT, 95), INDEX, 104);
        DUE.due("place 9 of ten", runOn(x, 0, BOX, 38, PUT, 90), 1);
    }

    private static void nothingOfVials() {
        DUE.sentence(IS_NOTHING, "a VIAL");
        for (int v = 4; v < 8; v++) {
            BenchRuns x = new BenchRuns();
            dueFailed("POUR to " + v, x, runOn(x, 0, POUR, v), NOTHING, 105);
            Due.round(x, 1, v);
            dueFailed("a ROUND for " + v, x, x.run(1, 1, false), NOTHING, 105);
            x.vial(v, 0);
            DUE.due("a ROUND for " + v + " in place", x.run(1, 1, false), 1);
            x.vial(v, -1);
            dueFailed("a ROUND for " + v + " taken away", x, x.run(1, 1, false), NOTHING, 105);
        }
    }

    private static void nothingOfTools() {
        DUE.sentence(IS_NOTHING, "a TOOL that is USED or has to GRIP");
        for (int t = 0; t < 6; t++) {
            BenchRuns x = new BenchRuns();
            dueFailed("USE " + t, x, runOn(x, 0, USE, t), NOTHING, 105);
            dueFailed("GRIP " + t, x, runOn(x, 0, GRIP, t), NOTHING, 105);
            x.tool(t, CLAMP);
            DUE.due("both in place", runOn(x, 0, USE, t, GRIP, t), 1);
            x.tool(t, -1);
            dueFailed("USE " + t + " taken away", x, runOn(x, 0, USE, t), NOTHING, 105);
            dueFailed("GRIP " + t + " taken away", x, runOn(x, 0, GRIP, t), NOTHING, 105);
        }
    }

    private static void nothingOfSizes() {
        DUE.sentence(IS_NOTHING, "a RACK, BOX, GRID that is not there");
        BenchRuns x = new BenchRuns();
        dueFailed("PUT without a BOX", x, runOn(x, 0, PUT, 0), NOTHING, 105);
        int[] kinds = {RACK, BOX, GRID};
        int[] none = {10, 6, 7};
        for (int n = 0; n < 3; n++) {
            dueFailed("COUNT " + n, x, runOn(x, 0, COUNT, n), NOTHING, 105);
            DUE.due("COUNT " + n + " of one of no size", runOn(x, 0, kinds[n], none[n], COUNT, n), 1);
        }
        DUE.due("all three", runOn(x, 0, COUNT, 0, COUNT, 1, COUNT, 2), 1);
    }

    private static void nothingLaid() {
        DUE.sentence(IS_NOTHING, "nothing is LAID");
        for (int k = 0; k < 4; k++) {
            BenchRuns x = new BenchRuns();
            x.lay((k + 1) % 4, 60);
            dueFailed("RAISE " + k, x, runOn(x, 0, RAISE, k), NOTHING, 105);
            x.lay(k, 1);
            dueFailed("RAISE " + k + " of 1", x, x.run(0, 0, false), 1);
            x.lay(k, 0);
            dueFailed("RAISE " + k + " of nothing again", x, x.run(0, 0, false), NOTHING, 105);
        }
    }

    private static void size() {
        DUE.sentence("6 SIZE (fewer than no places, rows)");
        int[][] fails = {
            {RACK, 0}, {RACK, 9}, {BOX, 0}, {BOX, 5}, {GRID, 0}, {GRID, 5}, {GRID, 6}, {GRID, 12}, {GRID, 30}
        };
        for (int[] step : fails) {
            BenchRuns x = new BenchRuns();
            dueFailed("kind " + step[0] + ", n " + step[1], x, runOn(x, 0, step), SIZE, 106);
        }
        int[][] holds = {{RACK, 10}, {BOX, 6}, {BOX, 7}, {BOX, 8}, {GRID, 7}, {GRID, 11}, {GRID, 13}, {GRID, 31}};
        for (int[] step : holds) {
            DUE.due("kind " + step[0] + ", n " + step[1], runOn(new BenchRuns(), 0, step), 1);
        }
    }

    private static void cast() {
        DUE.sentence("7 CAST (GRIP of a BRUSH)");
        for (int t = 0; t < 6; t++) {
            BenchRuns x = new BenchRuns();
            x.tool(t, BRUSH);
            dueFailed("GRIP " + t + ", no drops", x, runOn(x, 0, GRIP, t), CAST, 107);
            dueFailed("GRIP " + t + ", 1000 drops", x, runOn(x, 1000, GRIP, t), CAST, 107);
            DUE.due("USE " + t, runOn(x, 0, USE, t), 1);
            x.tool(t, CLAMP);
            DUE.due("GRIP " + t + ", now a CLAMP", runOn(x, 0, GRIP, t), 1);
        }
    }

    private static void store() {
        DUE.sentence("8 STORE (PUT of a TOOL of another sort)");
        BenchRuns x = new BenchRuns();
        x.tool(0, CLAMP);
        x.tool(1, BRUSH);
        dueFailed("a BRUSH among CLAMPS", x, runOn(x, 0, BOX, 9, PUT, 1), STORE, 108);
        dueFailed("a CLAMP among BRUSHES", x, runOn(x, 0, BOX, 10, PUT, 0), STORE, 108);
        DUE.due("no TOOL among BRUSHES", runOn(x, 0, PUT, 2), 1);
        x.tool(0, BRUSH);
        DUE.due("the CLAMP, now a BRUSH", runOn(x, 0, PUT, 0), 1);
        DUE.due("any among any", runOn(x, 0, BOX, 11, PUT, 0, PUT, 1), 1);
    }

    private static void byFail() {
        DUE.sentence("10 and n (FAIL)");
        BenchRuns x = new BenchRuns();
        for (int n = 0; n < 10; n++) {
            dueFailed("FAIL " + n, x, runOn(x, 0, FAIL, n), 10 + n);
        }
    }

    private static void laid() {
        DUE.sentence("what is LAID");
        BenchRuns x = new BenchRuns();
        for (int number : new int[] {1, 2, 9, 10, 20, 30, 98, 99}) {
            x.lay(0, number);
            dueFailed("RAISE of " + number, x, runOn(x, 0, RAISE, 0), number);
        }
    }

    private static void toolIndexFirst() {
        DUE.sentence(FIRST, "INDEX of the TOOL");
        for (int t = 6; t < 10; t++) {
            BenchRuns x = new BenchRuns();
            dueFailed("USE " + t, x, runOn(x, 0, USE, t), INDEX, 104);
            dueFailed("GRIP " + t, x, runOn(x, 0, GRIP, t), INDEX, 104);
            dueFailed("PUT of " + t + " without a BOX", x, runOn(x, 0, PUT, 90 + t), INDEX, 104);
            dueFailed("PUT of " + t + " into a BOX", x, runOn(x, 0, BOX, 11, PUT, t), INDEX, 104);
        }
    }

    private static void nothingBeforePlace() {
        DUE.sentence(FIRST, "NOTHING before INDEX of the place");
        BenchRuns x = new BenchRuns();
        x.tool(5, BRUSH);
        dueFailed("PUT at place 9 without a BOX", x, runOn(x, 0, PUT, 95), NOTHING, 105);
        dueFailed("PUT of none at place 9 without a BOX", x, runOn(x, 0, PUT, 90), NOTHING, 105);
    }

    private static void placeBeforeStore() {
        DUE.sentence(FIRST, "INDEX of the place before STORE");
        BenchRuns x = new BenchRuns();
        x.tool(0, CLAMP);
        x.tool(1, BRUSH);
        dueFailed("a BRUSH at place 1 of one", x, runOn(x, 0, BOX, 9, PUT, 11), INDEX, 104);
        dueFailed("a CLAMP at place 0 of none", x, runOn(x, 0, BOX, 7, PUT, 0), INDEX, 104);
    }

    private static void overLast() {
        DUE.sentence(FIRST, "OVER last");
        BenchRuns x = new BenchRuns();
        dueFailed("POUR of 1000 to 9", x, runOn(x, 1000, POUR, 9), INDEX, 104);
        dueFailed("POUR of 1000 to one not there", x, runOn(x, 1000, POUR, 4), NOTHING, 105);
        dueFailed("COUNT of none with 1000", x, runOn(x, 1000, COUNT, 0), NOTHING, 105);
    }

    private static void nothingDone() {
        DUE.sentence(NOTHING_DONE);
        int[][] steps = {
            {ADD, 200}, {SHARE, 0}, {POUR, 1}, {POUR, 8}, {POUR, 7}, {FAIL, 0}, {USE, 5}, {USE, 6}, {GRIP, 1},
            {GRIP, 5}, {GRIP, 9}, {RACK, 9}, {BOX, 5}, {GRID, 5}, {GRID, 6}, {PUT, 9}, {PUT, 21}, {PUT, 1},
            {RAISE, 0}, {RAISE, 1}
        };
        for (int[] step : steps) {
            dueAsBefore(900, step);
        }
        dueAsBefore(199, DRAW, 200);
        dueAsBefore(971, COUNT, 0);
    }

    /** A bench with something everywhere: a step that fails on it leaves all but the run as it was. */
    private static void dueAsBefore(int drops, int... step) {
        BenchRuns x = new BenchRuns();
        x.vial(1, 101);
        x.tool(0, CLAMP);
        x.tool(1, BRUSH);
        x.lay(0, 50);
        runOn(x, drops, RACK, 40, BOX, 12, PUT, 0, GRID, 20, USE, 1, GRIP, 0);
        int[] before = pictureOfBench(x);
        String text = "kind " + step[0] + ", n " + step[1];
        DUE.due(text, runOn(x, drops, step), FAILED);
        DUE.dueRow(text + ": the bench", pictureOfBench(x), before);
        DUE.due("what is LAID", x.lay(0, 0), 50);
        DUE.due("what is not LAID", x.lay(1, 0), 0);
    }

    private static void pourIntoItself() {
        DUE.sentence("POUR into the VIAL itself does nothing, too.");
        DUE.due("0 drops", dropsAfter(0, POUR, 0), 0);
        DUE.due("500 drops", dropsAfter(500, POUR, 0), 500);
        DUE.due("501 drops", dropsAfter(501, POUR, 0), 501);
        DUE.due("1000 drops", dropsAfter(1000, POUR, 0, DRAW, 1), 999);
    }

    private static void machinesOwn() {
        DUE.sentence(BEHIND, "3 to 8");
        int[][] steps = {{SHARE, 0}, {POUR, 8}, {POUR, 7}, {RACK, 9}, {GRIP, 1}, {PUT, 1}};
        for (int i = 0; i < steps.length; i++) {
            BenchRuns x = new BenchRuns();
            x.tool(1, BRUSH);
            runOn(x, 0, BOX, 9);
            DUE.due("failure " + (3 + i), runOn(x, 0, steps[i]), FAILED);
            DUE.due("why(0)", x.why(0), 3 + i);
            DUE.due("why(1)", x.why(1), 103 + i);
            DUE.due("why(2)", x.why(2), NONE);
        }
    }

    private static void notBehindOthers() {
        DUE.sentence(BEHIND, "not behind 1, 2, nor behind 10 and more");
        BenchRuns x = new BenchRuns();
        dueFailed("OVER", x, runOn(x, 1000, ADD, 1), OVER);
        dueFailed("SHORT", x, runOn(x, 0, DRAW, 1), SHORT);
        dueFailed("FAIL 0", x, runOn(x, 0, FAIL, 0), 10);
        dueFailed("FAIL 9", x, runOn(x, 0, FAIL, 9), 19);
    }

    private static void notBehindWhatIsLaid() {
        DUE.sentence(BEHIND, "not behind what is LAID");
        BenchRuns x = new BenchRuns();
        for (int number = 3; number < 9; number++) {
            x.lay(3, number);
            runOn(x, 0, SHARE, 0);
            dueFailed("LAID " + number, x, runOn(x, 0, RAISE, 3), number);
        }
    }

    private static void outwards() {
        DUE.sentence("A FAILURE goes outwards, its LAMP, HEATER being left first.");
        BenchRuns x = new BenchRuns();
        x.batch(0, LENIENT);
        Due.round(x, 0, 0, ADD, 1, FAIL, 0);
        Due.round(x, 0, 8);
        Due.round(x, 0, 0);
        DUE.due("run", x.run(0, 0, false), 1);
        DUE.dueRow("trace", Due.traces(x), 1, 3, 5, 6, 5, 6, 4, 3, 4, 2);
    }

    private static void plain() {
        DUE.sentence("At its BATCH: PLAIN: it goes on.");
        BenchRuns x = new BenchRuns();
        Due.round(x, 0, 0, FAIL, 5);
        Due.round(x, 0, 0, ADD, 1);
        Due.round(x, 1, 0, ADD, 1);
        dueFailed("run", x, x.run(0, 1, false), 15);
        DUE.due("no next round, no next batch", x.drops(0), 0);
        DUE.due("noted", x.told(6), 0);
    }

    private static void lenient() {
        DUE.sentence("LENIENT: it is NOTED, and the next ROUND is done.");
        BenchRuns x = new BenchRuns();
        x.batch(0, LENIENT);
        for (int r = 0; r < 6; r++) {
            Due.round(x, 0, 0, ADD, 1, FAIL, r);
        }
        x.batch(1, LENIENT);
        Due.round(x, 1, 9);
        DUE.due("run", x.run(0, 2, true), 3);
        DUE.dueRow("noted", Due.noteds(x), 10, 11, 12, 13, 14, 15, 4);
        DUE.due("all rounds were done", x.drops(0), 6);
        DUE.due("no failure of the run", x.why(0), NONE);
    }

    private static void stern() {
        DUE.sentence("STERN: in its stead 20 and the ROUND's number FAILS, behind which it stands.");
        for (int failing = 0; failing < 6; failing++) {
            BenchRuns x = new BenchRuns();
            x.batch(3, STERN);
            for (int r = 0; r < 6; r++) {
                Due.round(x, 3, r == failing ? 8 : 0, ADD, 1);
            }
            dueFailed("round " + failing, x, x.run(0, 3, false), 20 + failing, INDEX, 104);
            DUE.due("no next round", x.drops(0), failing);
            x.batch(3, STERN);
            Due.round(x, 3, 0, FAIL, failing);
            dueFailed("FAIL " + failing, x, x.run(3, 3, false), 20, 10 + failing);
            DUE.due("noted", x.told(6), 0);
        }
    }

    private static void wrapped() {
        DUE.sentence("At the run, when it is told to be WRAPPED, 30 and the BATCH's number FAILS in its stead, behind"
            + " which that stands.");
        for (int b = 0; b < 4; b++) {
            BenchRuns x = new BenchRuns();
            Due.round(x, b, 0, SHARE, 0);
            dueFailed("PLAIN batch " + b, x, x.run(0, 3, true), 30 + b, ZERO, 103);
            dueFailed("the same, not WRAPPED", x, x.run(0, 3, false), ZERO, 103);
            x.batch(b, STERN);
            Due.round(x, b, 0, SHARE, 0);
            dueFailed("STERN batch " + b, x, x.run(b, 3, true), 30 + b, 20, ZERO, 103);
            DUE.due("why(4)", x.why(4), NONE);
            dueFailed("the same, not WRAPPED", x, x.run(b, 3, false), 20, ZERO, 103);
        }
    }

    private static void wrappedWithoutFailure() {
        DUE.sentence("when it is told to be WRAPPED");
        BenchRuns x = new BenchRuns();
        DUE.due("to its end", runWrapped(x, ADD, 1), 1);
        DUE.due("why(0)", x.why(0), NONE);
        DUE.due("STOP", runWrapped(x, STOP, 1), 101);
        DUE.due("why(0)", x.why(0), NONE);
        DUE.due("TIRED", runWrapped(x, AGAIN, 200), TIRED);
        DUE.due("why(0)", x.why(0), NONE);
    }

    private static int runWrapped(BenchRuns x, int kind, int n) {
        x.batch(0, PLAIN);
        Due.round(x, 0, 0, kind, n);
        return x.run(0, 0, true);
    }

    private static void thenTheRunFailed() {
        DUE.sentence("Then the run FAILED.");
        BenchRuns x = new BenchRuns();
        Due.round(x, 1, 0, FAIL, 0);
        Due.round(x, 2, 0, ADD, 1);
        DUE.due("WRAPPED", x.run(0, 3, true), FAILED);
        DUE.due("no batch behind it", x.told(0), 2);
        DUE.due("not WRAPPED", x.run(0, 3, false), FAILED);
        DUE.due("no batch behind it", x.told(0), 2);
        DUE.due("no drops", x.drops(0), 0);
    }

    private static void trace() {
        DUE.sentence("(400 at most of a run; others are only counted)");
        BenchRuns x = new BenchRuns();
        DUE.due("398 events", runOn(x, 0, AGAIN, 196), 1);
        DUE.due("398 events: told(7)", x.told(7), 398);
        DUE.due("trace(397)", x.trace(397), 2);
        DUE.due("trace(398)", x.trace(398), NONE);
        DUE.due("400 events", runOn(x, 0, AGAIN, 197), 1);
        DUE.due("400 events: told(7)", x.told(7), 400);
        DUE.due("trace(398)", x.trace(398), 4);
        DUE.due("trace(399)", x.trace(399), 2);
        DUE.due("trace(400)", x.trace(400), NONE);
        DUE.due("402 events", runOn(x, 0, AGAIN, 198), 1);
        DUE.due("402 events: told(7)", x.told(7), 402);
        DUE.due("trace(399)", x.trace(399), 6);
        DUE.due("trace(400)", x.trace(400), NONE);
        DUE.due("trace(401)", x.trace(401), NONE);
        DUE.dueRow("told", Due.tolds(x), 1, 1, 1, 1, 199, 199, 0, 402);
    }

    private static void constants() {
        DUE.sentence("OUTSIDE = -1, FULL = -2, STATE = -3, NONE = -4, FAILED = -10, TIRED = -11;");
        DUE.due("OUTSIDE", BenchRuns.OUTSIDE, OUTSIDE);
        DUE.due("FULL", BenchRuns.FULL, FULL);
        DUE.due("STATE", BenchRuns.STATE, STATE);
        DUE.due("NONE", BenchRuns.NONE, NONE);
        DUE.due("FAILED", BenchRuns.FAILED, FAILED);
        DUE.due("TIRED", BenchRuns.TIRED, TIRED);
    }

    private static void outsideBeforeState() {
        DUE.sentence(CODES, "OUTSIDE before STATE");
        BenchRuns x = new BenchRuns();
        DUE.due("step of a batch without rounds", x.step(0, ADD, 0), STATE);
        DUE.due("step with n above", x.step(0, ADD, 201), OUTSIDE);
        DUE.due("step with kind above", x.step(0, 18, 0), OUTSIDE);
        DUE.due("about a tool not in place", x.about(0, 0), STATE);
        DUE.due("about with what above", x.about(0, 3), OUTSIDE);
    }

    private static void outsideBeforeFull() {
        DUE.sentence(CODES, "OUTSIDE before FULL");
        BenchRuns x = new BenchRuns();
        for (int r = 0; r < 6; r++) {
            x.round(0, 0);
        }
        for (int s = 0; s < 8; s++) {
            x.step(0, ADD, 0);
        }
        DUE.due("a round more", x.round(0, 9), FULL);
        DUE.due("a round more for vial 10", x.round(0, 10), OUTSIDE);
        DUE.due("a step more", x.step(0, ADD, 200), FULL);
        DUE.due("a step more with n above", x.step(0, ADD, 201), OUTSIDE);
        DUE.due("a step more with kind above", x.step(0, 18, 0), OUTSIDE);
    }

    private static void nothingChanges() {
        DUE.sentence(CODES, "then nothing changes");
        BenchRuns x = new BenchRuns();
        BenchRuns twin = new BenchRuns();
        for (BenchRuns each : new BenchRuns[] {x, twin}) {
            layOut(each);
            each.run(0, 3, true);
        }
        refusedCalls(x);
        dueAlike("behind refused calls", x, twin);
        DUE.due("run", x.run(0, 3, true), twin.run(0, 3, true));
        dueAlike("behind refused calls and a run", x, twin);
        for (int k = 0; k < 4; k++) {
            DUE.due("lay(" + k + ", 0)", x.lay(k, 0), twin.lay(k, 0));
        }
    }

    private static void dueAlike(String text, BenchRuns x, BenchRuns twin) {
        DUE.dueRow(text + ": the bench", pictureOfBench(x), pictureOfBench(twin));
        DUE.dueRow(text + ": the run", pictureOfRun(x), pictureOfRun(twin));
    }

    private static void layOut(BenchRuns x) {
        x.batch(0, LENIENT);
        x.tool(0, CLAMP);
        x.tool(1, BRUSH);
        x.lay(3, 33);
        for (int r = 0; r < 6; r++) {
            Due.round(x, 0, r, ADD, 1, RACK, 11, BOX, 11, PUT, 1, GRID, 14, USE, 0, GRIP, 0, RAISE, r % 4);
        }
        x.batch(1, STERN);
        Due.round(x, 1, 0, ADD, 10, FAIL, 5);
    }

    private static void refusedCalls(BenchRuns x) {
        for (int far : new int[] {-2, 10, LOW, HIGH}) {
            DUE.due("vial", x.vial(far, 0), OUTSIDE);
            DUE.due("vial", x.vial(0, far == 10 ? 1001 : far), OUTSIDE);
            DUE.due("batch", x.batch(far, PLAIN), OUTSIDE);
            DUE.due("batch", x.batch(0, far), OUTSIDE);
            DUE.due("round", x.round(far, 0), OUTSIDE);
            DUE.due("round", x.round(1, far), OUTSIDE);
            DUE.due("step", x.step(far, ADD, 0), OUTSIDE);
            DUE.due("step", x.step(1, far == 10 ? 18 : far, 0), OUTSIDE);
            DUE.due("step", x.step(1, POUR, far), OUTSIDE);
            DUE.due("tool", x.tool(far, CLAMP), OUTSIDE);
            DUE.due("tool", x.tool(0, far), OUTSIDE);
            DUE.due("lay", x.lay(far, 1), OUTSIDE);
            DUE.due("lay", x.lay(3, far == 10 ? 100 : far), OUTSIDE);
            DUE.due("run", x.run(far, 3, false), OUTSIDE);
            DUE.due("run", x.run(2, far, false), OUTSIDE);
        }
        DUE.due("run back", x.run(3, 2, false), OUTSIDE);
        DUE.due("round when full", x.round(0, 0), FULL);
        DUE.due("step when full", x.step(0, ADD, 0), FULL);
        DUE.due("step without a round", x.step(2, ADD, 0), STATE);
    }

    private static void noneChanges() {
        DUE.sentence("NONE -4, FAILED -10, TIRED -11 are no such ones.");
        BenchRuns x = new BenchRuns();
        DUE.due("vial(4, 5)", x.vial(4, 5), NONE);
        DUE.due("drops(4)", x.drops(4), 5);
        DUE.due("tool(0, 1)", x.tool(0, BRUSH), NONE);
        DUE.due("about(0, 2)", x.about(0, 2), BRUSH);
        DUE.due("a run that FAILS", runOn(x, 0, ADD, 7, FAIL, 0), FAILED);
        DUE.due("what it did", x.drops(0), 7);
        DUE.due("a run that is TIRED", runOn(x, 0, ADD, 7, AGAIN, 200), TIRED);
        DUE.due("what it did", x.drops(0), 700);
    }
}
