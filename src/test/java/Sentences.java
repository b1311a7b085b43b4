/**
 * What the tests of single sentences share: the document's numbers by name, and short ways to lay
 * out a bench. Each such test names the sentence that it stands for and asks for its edges.
 */
abstract class Sentences {
    // Written out, not taken from the class: its constants are promised, too.
    static final int OUTSIDE = -1, FULL = -2, STATE = -3, NONE = -4, FAILED = -10, TIRED = -11;
    static final int LOW = Integer.MIN_VALUE, HIGH = Integer.MAX_VALUE;
    static final int PLAIN = 0, LENIENT = 1, STERN = 2;
    static final int CLAMP = 0, BRUSH = 1;
    static final int ADD = 0, DRAW = 1, SHARE = 2, POUR = 3, SKIP = 4, BREAK = 5, STOP = 6, FAIL = 7, LACK = 8;
    static final int AGAIN = 9, USE = 10, GRIP = 11, RACK = 12, BOX = 13, GRID = 14, PUT = 15, COUNT = 16;
    static final int RAISE = 17;
    static final int OVER = 1, SHORT = 2, ZERO = 3, INDEX = 4, NOTHING = 5, SIZE = 6, CAST = 7, STORE = 8;
    static final int[] FAR = {LOW, LOW + 1, HIGH - 1, HIGH};
    static final Due DUE = new Due();

    /** Batch 0, made anew with one round for vial 0 that has so many drops: what its run answers. */
    static int runOn(BenchRuns x, int drops, int... steps) {
        x.vial(0, drops);
        x.batch(0, PLAIN);
        Due.round(x, 0, 0, steps);
        return x.run(0, 0, false);
    }

    /** The same on an object of its own: how many drops vial 0 has then. */
    static int dropsAfter(int drops, int... steps) {
        BenchRuns x = new BenchRuns();
        DUE.due("run", runOn(x, drops, steps), 1);
        return x.drops(0);
    }

    static void dueFailed(String text, BenchRuns x, int answer, int... whys) {
        DUE.due(text, answer, FAILED);
        DUE.dueRow(text + ": why", Due.whys(x), whys);
    }

    /** The greatest n that a kind takes, and the ones about it. */
    static void dueMostN(int kind, int most) {
        BenchRuns x = new BenchRuns();
        x.round(3, 0);
        DUE.due("n = 0", x.step(3, kind, 0), 0);
        DUE.due("n = " + most, x.step(3, kind, most), 1);
        DUE.due("n = -1", x.step(3, kind, -1), OUTSIDE);
        DUE.due("n = " + (most + 1), x.step(3, kind, most + 1), OUTSIDE);
        for (int far : FAR) {
            DUE.due("n = " + far, x.step(3, kind, far), OUTSIDE);
        }
        DUE.due("n = " + most + " once more", x.step(3, kind, most), 2);
    }

    /** What can be asked of vials, tools, rack, box and grid: for what has to stay as it was. */
    static int[] pictureOfBench(BenchRuns x) {
        int[] row = new int[49];
        int at = 0;
        for (int v = 0; v < 8; v++) {
            row[at++] = x.drops(v);
        }
        row[at++] = x.sum();
        for (int t = 0; t < 6; t++) {
            for (int what = 0; what < 3; what++) {
                row[at++] = x.about(t, what);
            }
        }
        for (int what = 0; what < 4; what++) {
            row[at++] = x.places(what);
        }
        for (int i = 0; i < 18; i++) {
            row[at++] = x.box(i);
        }
        return row;
    }

    /** What can be asked of the latest run, but for most of a long trace. */
    static int[] pictureOfRun(BenchRuns x) {
        int[] row = new int[38];
        int at = 0;
        for (int what = 0; what < 8; what++) {
            row[at++] = x.told(what);
        }
        for (int k = 0; k < 5; k++) {
            row[at++] = x.why(k);
        }
        for (int k = 0; k < 5; k++) {
            row[at++] = x.noted(k);
        }
        for (int k = 0; k < 20; k++) {
            row[at++] = x.trace(k);
        }
        return row;
    }
}
