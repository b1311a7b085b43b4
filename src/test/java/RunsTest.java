/** Promises 11 to 15: how a run goes and ends, and what is told of it. */
public final class RunsTest {
    private static final int OUTSIDE = BenchRuns.OUTSIDE, NONE = BenchRuns.NONE;
    private static final int FAILED = BenchRuns.FAILED, TIRED = BenchRuns.TIRED;
    private static final int LOW = Integer.MIN_VALUE, HIGH = Integer.MAX_VALUE;
    private static final Due DUE = new Due();

    public static void main(String[] args) {
        bounds();
        plain();
        lenient();
        stern();
        wrapping();
        mixedModes();
        tired();
        justNotTired();
        tiredInLenientAndStern();
        longTrace();
        latestRunOnly();
        told();
        mostNoted();
        DUE.end();
    }

    private static void bounds() {
        BenchRuns x = new BenchRuns();
        for (int first = 0; first < 4; first++) {
            for (int last = 0; last < 4; last++) {
                int want = last < first ? OUTSIDE : last - first + 1;
                DUE.due("run(" + first + ", " + last + ")", x.run(first, last, false), want);
            }
        }
        x.run(1, 2, false);
        int[][] wrong = {{-1, 0}, {0, 4}, {4, 4}, {3, 2}, {LOW, 0}, {0, HIGH}, {HIGH, HIGH}, {LOW, HIGH}, {-1, -1}};
        for (int[] call : wrong) {
            DUE.due("run(" + call[0] + ", " + call[1] + ")", x.run(call[0], call[1], true), OUTSIDE);
        }
        DUE.due("the latest run is as before", x.told(0), 2);
    }

    private static void plain() {
        BenchRuns x = new BenchRuns();
        Due.round(x, 1, 0, 0, 1);
        Due.round(x, 1, 1, 0, 1, 2, 0, 0, 1);
        Due.round(x, 1, 2, 0, 1);
        Due.round(x, 2, 3, 0, 1);
        DUE.due("PLAIN", x.run(0, 3, false), FAILED);
        DUE.dueRow("PLAIN: why", Due.whys(x), 3, 103);
        DUE.dueRow("PLAIN: trace", Due.traces(x), 1, 2, 1, 3, 5, 6, 4, 3, 5, 6, 5, 6, 4, 2);
        DUE.dueRow("PLAIN: told", Due.tolds(x), 2, 2, 2, 2, 3, 3, 0, 14);
        DUE.due("PLAIN: sum", x.sum(), 2);
        DUE.due("PLAIN: drops(1)", x.drops(1), 1);
    }

    private static void lenient() {
        BenchRuns x = new BenchRuns();
        x.batch(3, 1);
        x.lay(2, 5);
        Due.round(x, 3, 9);
        Due.round(x, 3, 0, 7, 9, 0, 1);
        Due.round(x, 3, 0, 0, 1, 17, 2);
        Due.round(x, 3, 1, 0, 7);
        DUE.due("LENIENT", x.run(3, 3, true), 1);
        DUE.dueRow("LENIENT: noted", Due.noteds(x), 4, 19, 5);
        DUE.due("LENIENT: noted(3)", x.noted(3), NONE);
        DUE.dueRow("LENIENT: why", Due.whys(x));
        DUE.dueRow("LENIENT: trace", Due.traces(x), 1, 3, 5, 6, 4, 3, 5, 6, 5, 6, 4, 3, 5, 6, 4, 2);
        DUE.due("LENIENT: drops(0)", x.drops(0), 1);
        DUE.due("LENIENT: drops(1)", x.drops(1), 7);
    }

    private static void stern() {
        for (int r = 0; r < 6; r++) {
            BenchRuns x = new BenchRuns();
            x.batch(0, 2);
            for (int before = 0; before < r; before++) {
                Due.round(x, 0, 0);
            }
            Due.round(x, 0, 0, 1, 1);
            DUE.due("STERN round " + r, x.run(0, 3, false), FAILED);
            DUE.dueRow("STERN round " + r + ": why", Due.whys(x), 20 + r, 2);
            DUE.due("STERN round " + r + ": noted", x.told(6), 0);
            DUE.due("STERN round " + r + ": batches", x.told(0), 1);
        }
    }

    private static void wrapping() {
        for (int b = 0; b < 4; b++) {
            BenchRuns x = new BenchRuns();
            Due.round(x, b, 8);
            DUE.due("wrapped batch " + b, x.run(0, 3, true), FAILED);
            DUE.dueRow("wrapped batch " + b + ": why", Due.whys(x), 30 + b, 4, 104);
            DUE.due("wrapped batch " + b + ": begun", x.told(0), b + 1);
            x.batch(b, 2);
            Due.round(x, b, 0);
            Due.round(x, b, 8);
            DUE.due("wrapped stern batch " + b, x.run(b, 3, true), FAILED);
            DUE.dueRow("wrapped stern batch " + b + ": why", Due.whys(x), 30 + b, 21, 4, 104);
            for (int k : new int[] {-1, 4, 5, LOW, HIGH}) {
                DUE.due("why(" + k + ")", x.why(k), NONE);
            }
        }
    }

    private static void mixedModes() {
        BenchRuns x = new BenchRuns();
        x.batch(0, 1);
        x.batch(1, 2);
        x.lay(1, 8);
        Due.round(x, 0, 0, 2, 0);
        Due.round(x, 1, 0, 17, 1);
        DUE.due("LENIENT, then STERN", x.run(0, 1, true), FAILED);
        DUE.dueRow("LENIENT, then STERN: noted", Due.noteds(x), 3);
        DUE.dueRow("LENIENT, then STERN: why", Due.whys(x), 31, 20, 8);
        x.batch(1, 0);
        Due.round(x, 1, 0, 6, 42);
        DUE.due("LENIENT, then STOP", x.run(0, 1, true), 142);
        DUE.dueRow("LENIENT, then STOP: noted", Due.noteds(x), 3);
        DUE.dueRow("LENIENT, then STOP: why", Due.whys(x));
    }

    private static void tired() {
        BenchRuns x = new BenchRuns();
        Due.round(x, 0, 0, 0, 1, 9, 200);
        Due.round(x, 0, 1, 0, 1);
        Due.round(x, 1, 1, 0, 1);
        DUE.due("TIRED", x.run(0, 1, true), TIRED);
        DUE.dueRow("TIRED: told", Due.tolds(x), 1, 1, 1, 1, 200, 200, 0, 404);
        DUE.due("TIRED: drops(0)", x.drops(0), 100);
        DUE.due("TIRED: drops(1)", x.drops(1), 0);
        DUE.dueRow("TIRED: why", Due.whys(x));
        DUE.due("the next run begins with new lamps", x.run(1, 1, false), 1);
        DUE.due("the next run's drops", x.drops(1), 1);
    }

    private static void justNotTired() {
        BenchRuns x = new BenchRuns();
        Due.round(x, 0, 0, 0, 1, 9, 99);
        Due.round(x, 0, 1);
        DUE.due("200 lamps", x.run(0, 3, false), 4);
        DUE.due("200 lamps: told(4)", x.told(4), 200);
        DUE.due("200 lamps: heaters", x.told(2), 2);
        Due.round(x, 1, 1, 4, 0);
        DUE.due("the 201st step is not lit", x.run(0, 3, false), TIRED);
        DUE.dueRow("the 201st step: told", Due.tolds(x), 2, 2, 3, 3, 200, 200, 0, 410);
        x.batch(1, 0);
        Due.round(x, 1, 8);
        DUE.due("a vial is looked at behind 200 lamps", x.run(0, 3, false), FAILED);
        DUE.dueRow("a vial is looked at: why", Due.whys(x), 4, 104);
    }

    private static void tiredInLenientAndStern() {
        for (int mode = 1; mode < 3; mode++) {
            BenchRuns x = new BenchRuns();
            x.batch(2, mode);
            Due.round(x, 2, 0, 9, 200);
            Due.round(x, 2, 0, 0, 1);
            DUE.due("TIRED in mode " + mode, x.run(0, 3, true), TIRED);
            DUE.due("TIRED in mode " + mode + ": noted", x.told(6), 0);
            DUE.dueRow("TIRED in mode " + mode + ": why", Due.whys(x));
            DUE.due("TIRED in mode " + mode + ": no next round", x.drops(0), 0);
        }
    }

    private static void longTrace() {
        BenchRuns x = new BenchRuns();
        Due.round(x, 0, 0, 9, 98);
        Due.round(x, 0, 0, 9, 99);
        DUE.due("a long run", x.run(0, 0, false), 1);
        DUE.due("a long run: told(7)", x.told(7), 404);
        DUE.due("trace(399)", x.trace(399), 6);
        DUE.due("trace(398)", x.trace(398), 5);
        for (int k : new int[] {400, 401, 403, 404, HIGH, -1, LOW}) {
            DUE.due("trace(" + k + ")", x.trace(k), NONE);
        }
    }

    private static void latestRunOnly() {
        BenchRuns x = new BenchRuns();
        x.batch(0, 1);
        Due.round(x, 0, 8);
        Due.round(x, 1, 0, 0, 1, 7, 3);
        x.run(0, 1, false);
        DUE.dueRow("the first run: told", Due.tolds(x), 2, 2, 1, 1, 2, 2, 1, 10);
        DUE.due("the second run", x.run(2, 2, false), 1);
        DUE.dueRow("the second run: told", Due.tolds(x), 1, 1, 0, 0, 0, 0, 0, 2);
        DUE.dueRow("the second run: why", Due.whys(x));
        DUE.due("the second run: noted(0)", x.noted(0), NONE);
        DUE.dueRow("the second run: trace", Due.traces(x), 1, 2);
        DUE.due("the second run: trace(2)", x.trace(2), NONE);
    }

    private static void told() {
        BenchRuns x = new BenchRuns();
        for (int wrong : new int[] {-1, 8, LOW, HIGH}) {
            DUE.due("told(" + wrong + ")", x.told(wrong), OUTSIDE);
        }
        Due.round(x, 0, 0, 0, 1, 0, 1, 0, 1);
        Due.round(x, 0, 0, 0, 1);
        x.run(0, 2, false);
        DUE.dueRow("told", Due.tolds(x), 3, 3, 2, 2, 4, 4, 0, 18);
    }

    private static void mostNoted() {
        BenchRuns x = new BenchRuns();
        for (int b = 0; b < 4; b++) {
            x.batch(b, 1);
            for (int r = 0; r < 6; r++) {
                Due.round(x, b, 0, 7, (b * 6 + r) % 10);
            }
        }
        DUE.due("24 failures", x.run(0, 3, true), 4);
        DUE.due("24 failures: told(6)", x.told(6), 24);
        for (int k = 0; k < 24; k++) {
            DUE.due("noted(" + k + ")", x.noted(k), 10 + k % 10);
        }
        for (int k : new int[] {-1, 24, 25, LOW, HIGH}) {
            DUE.due("noted(" + k + ")", x.noted(k), NONE);
        }
    }
}
