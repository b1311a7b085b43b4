/** Promises 1 to 7: a new object, and the calls that lay out vials, batches, tools and failures. */
public final class SettingUpTest {
    private static final int OUTSIDE = BenchRuns.OUTSIDE, FULL = BenchRuns.FULL, STATE = BenchRuns.STATE;
    private static final int NONE = BenchRuns.NONE;
    private static final int LOW = Integer.MIN_VALUE, HIGH = Integer.MAX_VALUE;
    private static final Due DUE = new Due();

    public static void main(String[] args) {
        newObject();
        vial();
        batch();
        round();
        step();
        mostOfEachKind();
        tool();
        lay();
        DUE.end();
    }

    private static void newObject() {
        BenchRuns x = new BenchRuns();
        for (int v = 0; v < 8; v++) {
            DUE.due("new: drops(" + v + ")", x.drops(v), v < 4 ? 0 : NONE);
        }
        DUE.due("new: sum()", x.sum(), 0);
        for (int t = 0; t < 6; t++) {
            DUE.due("new: about(" + t + ", 0)", x.about(t, 0), STATE);
        }
        for (int what = 0; what < 4; what++) {
            DUE.due("new: places(" + what + ")", x.places(what), NONE);
        }
        DUE.dueRow("new: told", Due.tolds(x), 0, 0, 0, 0, 0, 0, 0, 0);
        DUE.due("new: box(0)", x.box(0), NONE);
        DUE.due("new: why(0)", x.why(0), NONE);
        DUE.due("new: trace(0)", x.trace(0), NONE);
        DUE.due("new: noted(0)", x.noted(0), NONE);
        for (int b = 0; b < 4; b++) {
            DUE.due("new: step of a batch without rounds", x.step(b, 0, 0), STATE);
        }
        DUE.due("new: run(0, 3, true)", x.run(0, 3, true), 4);
        DUE.dueRow("new: trace", Due.traces(x), 1, 2, 1, 2, 1, 2, 1, 2);
        for (int b = 0; b < 4; b++) {
            Due.round(x, b, 0, 7, 1);
            DUE.due("new: a failure in batch " + b, x.run(b, b, false), BenchRuns.FAILED);
            DUE.dueRow("new: batch " + b + " is PLAIN", Due.whys(x), 11);
        }
        for (int k = 0; k < 4; k++) {
            DUE.due("new: lay(" + k + ", 0)", x.lay(k, 0), 0);
        }
    }

    private static void vial() {
        BenchRuns x = new BenchRuns();
        DUE.due("vial(0, 7)", x.vial(0, 7), 0);
        DUE.due("vial(0, 1000)", x.vial(0, 1000), 7);
        DUE.due("vial(0, 0)", x.vial(0, 0), 1000);
        DUE.due("vial(7, 3)", x.vial(7, 3), NONE);
        DUE.due("vial(7, -1)", x.vial(7, -1), 3);
        DUE.due("vial(7, -1) again", x.vial(7, -1), NONE);
        DUE.due("drops(7)", x.drops(7), NONE);
        DUE.due("vial(1, 5)", x.vial(1, 5), 0);
        int[][] wrong = {{-1, 0}, {8, 0}, {LOW, 0}, {HIGH, 0}, {1, -2}, {1, 1001}, {1, LOW}, {1, HIGH}};
        for (int[] call : wrong) {
            DUE.due("vial(" + call[0] + ", " + call[1] + ")", x.vial(call[0], call[1]), OUTSIDE);
        }
        DUE.due("drops(1) as before", x.drops(1), 5);
    }

    private static void batch() {
        BenchRuns x = new BenchRuns();
        DUE.due("batch(0, 2)", x.batch(0, 2), 0);
        Due.round(x, 0, 0, 0, 1, 0, 1);
        Due.round(x, 0, 0);
        int[][] wrong = {{-1, 0}, {4, 0}, {LOW, 0}, {HIGH, 0}, {0, -1}, {0, 3}, {0, LOW}, {0, HIGH}};
        for (int[] call : wrong) {
            DUE.due("batch(" + call[0] + ", " + call[1] + ")", x.batch(call[0], call[1]), OUTSIDE);
        }
        DUE.due("batch(0, 1)", x.batch(0, 1), 2);
        DUE.due("batch(0, 0)", x.batch(0, 0), 0);
        DUE.due("step of a batch that is empty again", x.step(0, 0, 1), STATE);
        DUE.due("round(0, 1)", x.round(0, 1), 0);
        DUE.due("a round made anew has no steps", x.step(0, 0, 5), 0);
        x.run(0, 0, false);
        DUE.due("only the new step was done: sum()", x.sum(), 5);
        DUE.due("only the new step was done: drops(1)", x.drops(1), 5);
    }

    private static void round() {
        BenchRuns x = new BenchRuns();
        for (int b = 0; b < 4; b++) {
            for (int r = 0; r < 6; r++) {
                DUE.due("round(" + b + ", " + (r + 4) + ")", x.round(b, r + 4), r);
            }
            DUE.due("a seventh round", x.round(b, 0), FULL);
            DUE.due("a seventh round for no vial", x.round(b, 10), OUTSIDE);
        }
        int[][] wrong = {{-1, 0}, {4, 0}, {LOW, 0}, {HIGH, 0}, {0, -1}, {0, 10}, {0, LOW}, {0, HIGH}};
        for (int[] call : wrong) {
            DUE.due("round(" + call[0] + ", " + call[1] + ")", x.round(call[0], call[1]), OUTSIDE);
        }
        DUE.due("batch(3, 0)", x.batch(3, 0), 6);
        DUE.due("round(3, 0)", x.round(3, 0), 0);
    }

    private static void step() {
        BenchRuns x = new BenchRuns();
        DUE.due("step without a round", x.step(2, 0, 0), STATE);
        DUE.due("a wrong step without a round", x.step(2, 0, 201), OUTSIDE);
        x.round(2, 0);
        for (int s = 0; s < 8; s++) {
            DUE.due("step " + s, x.step(2, 0, s), s);
        }
        DUE.due("a ninth step", x.step(2, 0, 0), FULL);
        DUE.due("a ninth step that is wrong", x.step(2, 18, 0), OUTSIDE);
        DUE.due("no round of another batch", x.step(1, 0, 0), STATE);
        x.round(2, 1);
        DUE.due("a step of the last round", x.step(2, 0, 100), 0);
        x.run(2, 2, false);
        DUE.due("steps of round 0: drops(0)", x.drops(0), 28);
        DUE.due("steps of round 1: drops(1)", x.drops(1), 100);
        int[][] wrong = {{-1, 0}, {4, 0}, {LOW, 0}, {HIGH, 0}, {2, -1}, {2, 18}, {2, LOW}, {2, HIGH}};
        for (int[] call : wrong) {
            DUE.due("step(" + call[0] + ", " + call[1] + ", 0)", x.step(call[0], call[1], 0), OUTSIDE);
        }
        DUE.due("a wrong step was none", x.step(2, 0, 0), 1);
    }

    private static void mostOfEachKind() {
        int[] most = {200, 200, 200, 9, 200, 200, 200, 9, 200, 200, 9, 9, 40, 60, 35, 99, 2, 3};
        for (int kind = 0; kind < most.length; kind++) {
            BenchRuns x = new BenchRuns();
            x.round(0, 0);
            String call = "step(0, " + kind + ", ";
            DUE.due(call + "0)", x.step(0, kind, 0), 0);
            DUE.due(call + most[kind] + ")", x.step(0, kind, most[kind]), 1);
            DUE.due(call + (most[kind] + 1) + ")", x.step(0, kind, most[kind] + 1), OUTSIDE);
            DUE.due(call + "-1)", x.step(0, kind, -1), OUTSIDE);
            DUE.due(call + "low)", x.step(0, kind, LOW), OUTSIDE);
            DUE.due(call + "high)", x.step(0, kind, HIGH), OUTSIDE);
        }
    }

    private static void tool() {
        BenchRuns x = new BenchRuns();
        DUE.due("tool(5, -1)", x.tool(5, -1), NONE);
        DUE.due("tool(5, 1)", x.tool(5, 1), NONE);
        DUE.due("tool(5, 0)", x.tool(5, 0), 1);
        DUE.due("about(5, 2)", x.about(5, 2), 0);
        DUE.due("tool(0, 0)", x.tool(0, 0), NONE);
        x.vial(0, 9);
        Due.round(x, 0, 0, 10, 5, 11, 5, 13, 12, 15, 5);
        x.run(0, 0, false);
        DUE.due("USES before", x.about(5, 0), 1);
        DUE.due("GRIP before", x.about(5, 1), 9);
        DUE.due("tool(5, 0) anew", x.tool(5, 0), 0);
        DUE.due("USES anew", x.about(5, 0), 0);
        DUE.due("GRIP anew", x.about(5, 1), 0);
        DUE.due("tool(5, -1) of a clamp", x.tool(5, -1), 0);
        DUE.due("about(5, 0) of none", x.about(5, 0), STATE);
        DUE.due("what lies in the box stays", x.box(0), 5);
        int[][] wrong = {{-1, 0}, {6, 0}, {LOW, 0}, {HIGH, 0}, {0, -2}, {0, 2}, {0, LOW}, {0, HIGH}};
        for (int[] call : wrong) {
            DUE.due("tool(" + call[0] + ", " + call[1] + ")", x.tool(call[0], call[1]), OUTSIDE);
        }
        DUE.due("tool 0 as before", x.about(0, 2), 0);
    }

    private static void lay() {
        BenchRuns x = new BenchRuns();
        DUE.due("lay(0, 1)", x.lay(0, 1), 0);
        DUE.due("lay(3, 99)", x.lay(3, 99), 0);
        DUE.due("lay(0, 50)", x.lay(0, 50), 1);
        int[][] wrong = {{-1, 1}, {4, 1}, {LOW, 1}, {HIGH, 1}, {0, -1}, {0, 100}, {0, LOW}, {0, HIGH}};
        for (int[] call : wrong) {
            DUE.due("lay(" + call[0] + ", " + call[1] + ")", x.lay(call[0], call[1]), OUTSIDE);
        }
        DUE.due("lay(0, 0)", x.lay(0, 0), 50);
        DUE.due("lay(0, 0) again", x.lay(0, 0), 0);
        DUE.due("lay(3, 0)", x.lay(3, 0), 99);
    }
}
