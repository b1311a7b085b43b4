/** The sentences of promises 1 to 17, each with the bounds that it names. */
public final class PromiseSentencesTest extends Sentences {
    private PromiseSentencesTest() {
    }

    public static void main(String[] args) {
        newObject();
        vial();
        vialOutside();
        batch();
        batchOutside();
        round();
        roundRefused();
        step();
        stepOutside();
        stepState();
        stepFull();
        tool();
        toolInBox();
        toolOutside();
        lay();
        layOutside();
        askings();
        runs();
        tellings();
        DUE.end();
    }

    private static void askings() {
        about();
        aboutRefused();
        places();
        placesOutside();
        box();
        drops();
        dropsOutside();
        sum();
    }

    private static void runs() {
        run();
        runStopped();
        runFailed();
        runTired();
        runOutside();
    }

    private static void tellings() {
        why();
        whyNone();
        told();
        toldBefore();
        toldOutside();
        trace();
        noted();
    }

    private static void newObject() {
        DUE.sentence("VIALS 0 to 3 are in place, without DROPS; BATCHES are PLAIN, without ROUNDS; no run.");
        BenchRuns x = new BenchRuns();
        for (int v = 0; v < 8; v++) {
            DUE.due("drops(" + v + ")", x.drops(v), v < 4 ? 0 : NONE);
        }
        for (int b = 0; b < 4; b++) {
            BenchRuns y = new BenchRuns();
            DUE.due("the first round of batch " + b, y.round(b, 8), 0);
            dueFailed("batch " + b + " is PLAIN", y, y.run(b, b, false), INDEX, 104);
            DUE.due("rounds of another object's batch " + b, x.batch(b, PLAIN), 0);
        }
        DUE.due("why(0)", x.why(0), NONE);
        DUE.due("noted(0)", x.noted(0), NONE);
        DUE.due("trace(0)", x.trace(0), NONE);
    }

    private static void vial() {
        DUE.sentence("A VIAL is in place with so many DROPS, or, by -1, not: how many it had; NONE: it was not.");
        BenchRuns x = new BenchRuns();
        DUE.due("vial(3, 1000)", x.vial(3, 1000), 0);
        DUE.due("vial(3, 0)", x.vial(3, 0), 1000);
        DUE.due("vial(3, -1)", x.vial(3, -1), 0);
        DUE.due("drops(3)", x.drops(3), NONE);
        DUE.due("vial(3, -1) again", x.vial(3, -1), NONE);
        DUE.due("vial(3, 1)", x.vial(3, 1), NONE);
        DUE.due("drops(3)", x.drops(3), 1);
        DUE.due("vial(4, 0)", x.vial(4, 0), NONE);
        DUE.due("drops(4)", x.drops(4), 0);
    }

    private static void vialOutside() {
        DUE.sentence("A VIAL is in place with so many DROPS", "OUTSIDE");
        BenchRuns x = new BenchRuns();
        int[][] wrong = {{-1, 0}, {8, 0}, {-1, -2}, {0, -2}, {0, 1001}};
        for (int[] call : wrong) {
            DUE.due("vial(" + call[0] + ", " + call[1] + ")", x.vial(call[0], call[1]), OUTSIDE);
        }
        for (int far : FAR) {
            DUE.due("vial(" + far + ", 0)", x.vial(far, 0), OUTSIDE);
            DUE.due("vial(0, " + far + ")", x.vial(0, far), OUTSIDE);
        }
        DUE.due("drops(0)", x.drops(0), 0);
    }

    private static void batch() {
        DUE.sentence("A BATCH has no ROUNDS, and a MODE: how many it had.");
        BenchRuns x = new BenchRuns();
        for (int b = 0; b < 4; b++) {
            DUE.due("batch of none", x.batch(b, LENIENT), 0);
            for (int r = 0; r < 6; r++) {
                Due.round(x, b, 0, FAIL, 0);
            }
            DUE.due("batch of 6", x.batch(b, STERN), 6);
            DUE.due("step of no round", x.step(b, ADD, 1), STATE);
            DUE.due("run of no round", x.run(b, b, false), 1);
            DUE.due("round 0 again", x.round(b, 0), 0);
            DUE.due("its step 0", x.step(b, DRAW, 1), 0);
            dueFailed("the new MODE", x, x.run(b, b, false), 20, SHORT);
            DUE.due("batch of 1", x.batch(b, PLAIN), 1);
        }
    }

    private static void batchOutside() {
        DUE.sentence("A BATCH has no ROUNDS, and a MODE", "OUTSIDE");
        BenchRuns x = new BenchRuns();
        x.round(0, 0);
        int[][] wrong = {{-1, 0}, {4, 0}, {0, -1}, {0, 3}};
        for (int[] call : wrong) {
            DUE.due("batch(" + call[0] + ", " + call[1] + ")", x.batch(call[0], call[1]), OUTSIDE);
        }
        for (int far : FAR) {
            DUE.due("batch(" + far + ", 0)", x.batch(far, 0), OUTSIDE);
            DUE.due("batch(0, " + far + ")", x.batch(0, far), OUTSIDE);
        }
        DUE.due("its round is there", x.batch(0, 0), 1);
    }

    private static void round() {
        DUE.sentence("A ROUND more of a BATCH, for a VIAL: its number.");
        BenchRuns x = new BenchRuns();
        for (int r = 0; r < 6; r++) {
            DUE.due("round of batch 3", x.round(3, r % 4), r);
            x.step(3, ADD, 1 + r);
        }
        DUE.due("run", x.run(3, 3, false), 1);
        DUE.due("rounds 0 and 4", x.drops(0), 6);
        DUE.due("rounds 1 and 5", x.drops(1), 8);
        DUE.due("round 2", x.drops(2), 3);
        DUE.due("round 3", x.drops(3), 4);
    }

    private static void roundRefused() {
        DUE.sentence("A ROUND more of a BATCH", "OUTSIDE; FULL");
        BenchRuns x = new BenchRuns();
        for (int r = 0; r < 6; r++) {
            x.round(0, 9);
        }
        int[][] wrong = {{-1, 0}, {4, 0}, {0, -1}, {0, 10}, {1, 10}, {1, -1}};
        for (int[] call : wrong) {
            DUE.due("round(" + call[0] + ", " + call[1] + ")", x.round(call[0], call[1]), OUTSIDE);
        }
        for (int far : FAR) {
            DUE.due("round(" + far + ", 0)", x.round(far, 0), OUTSIDE);
            DUE.due("round(0, " + far + ")", x.round(0, far), OUTSIDE);
        }
        DUE.due("round(0, 0)", x.round(0, 0), FULL);
        DUE.due("round(0, 9)", x.round(0, 9), FULL);
        DUE.due("another batch is not full", x.round(1, 9), 0);
        DUE.due("rounds of batch 0", x.batch(0, PLAIN), 6);
        DUE.due("not full any more", x.round(0, 0), 0);
    }

    private static void step() {
        DUE.sentence("A STEP more of the last ROUND of a BATCH: its number.");
        BenchRuns x = new BenchRuns();
        x.round(0, 0);
        x.round(0, 1);
        x.round(1, 2);
        DUE.due("step of round 1", x.step(0, ADD, 5), 0);
        DUE.due("step of round 1", x.step(0, ADD, 6), 1);
        DUE.due("step of batch 1", x.step(1, ADD, 7), 0);
        DUE.due("run", x.run(0, 1, false), 2);
        DUE.due("drops(0)", x.drops(0), 0);
        DUE.due("drops(1)", x.drops(1), 11);
        DUE.due("drops(2)", x.drops(2), 7);
    }

    private static void stepOutside() {
        DUE.sentence("OUTSIDE: the BATCH, KIND, n (of POUR, FAIL: above 9; of 10 to 17 as told)");
        BenchRuns x = new BenchRuns();
        x.round(0, 0);
        for (int wrong : new int[] {-1, 4, LOW, HIGH}) {
            DUE.due("batch " + wrong, x.step(wrong, ADD, 0), OUTSIDE);
        }
        for (int wrong : new int[] {-1, 18, LOW, HIGH}) {
            DUE.due("kind " + wrong, x.step(0, wrong, 0), OUTSIDE);
        }
        int[] most = {200, 200, 200, 9, 200, 200, 200, 9, 200, 200, 9, 9, 40, 60, 35, 99, 2, 3};
        for (int kind = 0; kind < 18; kind++) {
            DUE.due("kind " + kind + ", n above", x.step(0, kind, most[kind] + 1), OUTSIDE);
            DUE.due("kind " + kind + ", n below", x.step(0, kind, -1), OUTSIDE);
            DUE.due("kind " + kind + ", n the most", x.step(0, kind, most[kind]), kind % 8);
            if (kind % 8 == 7) {
                x.round(0, 0);
            }
        }
    }

    private static void stepState() {
        DUE.sentence("STATE: it has no ROUND");
        BenchRuns x = new BenchRuns();
        for (int b = 0; b < 4; b++) {
            DUE.due("at first", x.step(b, ADD, 0), STATE);
        }
        x.round(1, 0);
        DUE.due("another batch has one", x.step(0, ADD, 0), STATE);
        DUE.due("it has one", x.step(1, ADD, 0), 0);
        x.batch(1, PLAIN);
        DUE.due("it has none any more", x.step(1, ADD, 0), STATE);
    }

    private static void stepFull() {
        DUE.sentence("STATE: it has no ROUND; FULL.", "FULL");
        BenchRuns x = new BenchRuns();
        x.round(2, 0);
        for (int s = 0; s < 8; s++) {
            DUE.due("step " + s, x.step(2, ADD, 1), s);
        }
        DUE.due("step 8", x.step(2, ADD, 1), FULL);
        DUE.due("step 8 again", x.step(2, ADD, 1), FULL);
        x.round(2, 1);
        DUE.due("the next round is not", x.step(2, ADD, 1), 0);
        x.run(2, 2, false);
        DUE.due("eight steps", x.drops(0), 8);
    }

    private static void tool() {
        DUE.sentence("A TOOL is in place, anew: 0 a CLAMP, 1 a BRUSH; by -1 it is not: which it was; NONE: it was"
            + " not.");
        for (int t = 0; t < 6; t++) {
            BenchRuns x = new BenchRuns();
            DUE.due("none by -1", x.tool(t, -1), NONE);
            DUE.due("none by 0", x.tool(t, CLAMP), NONE);
            DUE.due("run", runOn(x, 3, USE, t, GRIP, t), 1);
            DUE.due("a CLAMP by 0", x.tool(t, CLAMP), CLAMP);
            DUE.due("USES anew", x.about(t, 0), 0);
            DUE.due("GRIP anew", x.about(t, 1), 0);
            DUE.due("run", runOn(x, 3, USE, t, GRIP, t), 1);
            DUE.due("a CLAMP by 1", x.tool(t, BRUSH), CLAMP);
            DUE.due("GRIP anew", x.about(t, 1), 0);
            DUE.due("run", runOn(x, 3, USE, t), 1);
            DUE.due("a BRUSH by -1", x.tool(t, -1), BRUSH);
            DUE.due("about none", x.about(t, 0), STATE);
            DUE.due("none by 1", x.tool(t, BRUSH), NONE);
            DUE.due("USES anew", x.about(t, 0), 0);
        }
    }

    private static void toolInBox() {
        DUE.sentence("(What lies in the BOX stays there.)");
        BenchRuns x = new BenchRuns();
        x.tool(0, CLAMP);
        x.tool(5, CLAMP);
        DUE.due("run", runOn(x, 0, BOX, 12, PUT, 5, PUT, 10), 1);
        x.tool(5, -1);
        x.tool(0, BRUSH);
        DUE.due("a tool taken away", x.box(0), 5);
        DUE.due("a tool of another sort now", x.box(1), 0);
        DUE.due("run", runOn(x, 0, USE, 0), 1);
        DUE.due("box(0) behind a run", x.box(0), 5);
        DUE.due("box(1) behind a run", x.box(1), 0);
    }

    private static void toolOutside() {
        DUE.sentence("A TOOL is in place, anew", "OUTSIDE");
        BenchRuns x = new BenchRuns();
        x.tool(0, BRUSH);
        int[][] wrong = {{-1, 0}, {6, 0}, {0, -2}, {0, 2}, {-1, -1}, {6, -1}};
        for (int[] call : wrong) {
            DUE.due("tool(" + call[0] + ", " + call[1] + ")", x.tool(call[0], call[1]), OUTSIDE);
        }
        for (int far : FAR) {
            DUE.due("tool(" + far + ", 0)", x.tool(far, CLAMP), OUTSIDE);
            DUE.due("tool(0, " + far + ")", x.tool(0, far), OUTSIDE);
        }
        DUE.due("tool 0 as it was", x.about(0, 2), BRUSH);
    }

    private static void lay() {
        DUE.sentence("A FAILURE with a number (1 to 99) is LAID at k (0 to 3); by 0 nothing: the number that was;"
            + " 0.");
        BenchRuns x = new BenchRuns();
        for (int k = 0; k < 4; k++) {
            DUE.due("lay(" + k + ", 99)", x.lay(k, 99), 0);
        }
        for (int k = 0; k < 4; k++) {
            DUE.due("lay(" + k + ", 1)", x.lay(k, 1), 99);
            DUE.due("lay(" + k + ", 0)", x.lay(k, 0), 1);
            DUE.due("lay(" + k + ", 0) again", x.lay(k, 0), 0);
            dueFailed("RAISE " + k, x, runOn(x, 0, RAISE, k), NOTHING, 105);
        }
    }

    private static void layOutside() {
        DUE.sentence("A FAILURE with a number (1 to 99) is LAID at k (0 to 3)", "OUTSIDE");
        BenchRuns x = new BenchRuns();
        x.lay(0, 7);
        int[][] wrong = {{-1, 1}, {4, 1}, {0, -1}, {0, 100}, {-1, 0}, {4, 0}};
        for (int[] call : wrong) {
            DUE.due("lay(" + call[0] + ", " + call[1] + ")", x.lay(call[0], call[1]), OUTSIDE);
        }
        for (int far : FAR) {
            DUE.due("lay(" + far + ", 1)", x.lay(far, 1), OUTSIDE);
            DUE.due("lay(0, " + far + ")", x.lay(0, far), OUTSIDE);
        }
        DUE.due("lay(0, 0)", x.lay(0, 0), 7);
    }

    private static void about() {
        DUE.sentence("Of a TOOL: what = 0 USES, 1 GRIP (0 of a BRUSH), 2 which sort it is.");
        for (int t = 0; t < 6; t++) {
            BenchRuns x = new BenchRuns();
            x.tool(t, CLAMP);
            DUE.due("run", runOn(x, 1000, USE, t, GRIP, t, AGAIN, 1), 1);
            DUE.due("USES", x.about(t, 0), 2);
            DUE.due("GRIP", x.about(t, 1), 2000);
            DUE.due("sort", x.about(t, 2), CLAMP);
            x.tool(t, BRUSH);
            runOn(x, 1000, USE, t, GRIP, t);
            DUE.due("USES of a BRUSH", x.about(t, 0), 1);
            DUE.due("GRIP of a BRUSH", x.about(t, 1), 0);
            DUE.due("sort of a BRUSH", x.about(t, 2), BRUSH);
        }
    }

    private static void aboutRefused() {
        DUE.sentence("OUTSIDE; STATE: it is not in place.");
        BenchRuns x = new BenchRuns();
        x.tool(0, CLAMP);
        for (int what = 0; what < 3; what++) {
            DUE.due("about(5, " + what + ")", x.about(5, what), STATE);
            DUE.due("about(6, " + what + ")", x.about(6, what), OUTSIDE);
            DUE.due("about(-1, " + what + ")", x.about(-1, what), OUTSIDE);
        }
        DUE.due("about(0, -1)", x.about(0, -1), OUTSIDE);
        DUE.due("about(0, 3)", x.about(0, 3), OUTSIDE);
        DUE.due("about(5, 3)", x.about(5, 3), OUTSIDE);
        for (int far : FAR) {
            DUE.due("about(" + far + ", 0)", x.about(far, 0), OUTSIDE);
            DUE.due("about(0, " + far + ")", x.about(0, far), OUTSIDE);
        }
    }

    private static void places() {
        DUE.sentence("Places of the RACK (what = 0), the BOX (1), rows of the GRID (2), places of its first row"
            + " (3; NONE, if it has no rows); NONE: there is none.");
        BenchRuns x = new BenchRuns();
        for (int what = 0; what < 4; what++) {
            DUE.due("places(" + what + ") of none", x.places(what), NONE);
        }
        DUE.due("run", runOn(x, 0, RACK, 40, BOX, 60, GRID, 34), 1);
        int[] large = {30, 18, 4, 3};
        for (int what = 0; what < 4; what++) {
            DUE.due("places(" + what + ")", x.places(what), large[what]);
        }
        DUE.due("run", runOn(x, 0, RACK, 10, BOX, 6, GRID, 13), 1);
        int[] small = {0, 0, 1, 0};
        for (int what = 0; what < 4; what++) {
            DUE.due("places(" + what + ") of no size", x.places(what), small[what]);
        }
        DUE.due("run", runOn(x, 0, GRID, 11), 1);
        DUE.due("no rows: places(2)", x.places(2), 0);
        DUE.due("no rows: places(3)", x.places(3), NONE);
    }

    private static void placesOutside() {
        DUE.sentence("Places of the RACK (what = 0)", "OUTSIDE");
        BenchRuns x = new BenchRuns();
        for (int wrong : new int[] {-1, 4, LOW, HIGH}) {
            DUE.due("places(" + wrong + ")", x.places(wrong), OUTSIDE);
        }
    }

    private static void box() {
        DUE.sentence("The number that the TOOL has that lies in place i of the BOX; NONE: it is empty, or there"
            + " is no such place.");
        BenchRuns x = new BenchRuns();
        for (int none : new int[] {-1, 0, 18, LOW, HIGH}) {
            DUE.due("box(" + none + ") of none", x.box(none), NONE);
        }
        x.tool(0, CLAMP);
        x.tool(5, BRUSH);
        DUE.due("run", runOn(x, 0, BOX, 14, PUT, 0, PUT, 15), 1);
        DUE.due("box(0)", x.box(0), 0);
        DUE.due("box(1)", x.box(1), 5);
        for (int none : new int[] {-1, 2, 17, 18, LOW, HIGH}) {
            DUE.due("box(" + none + ") of two", x.box(none), NONE);
        }
        DUE.due("run", runOn(x, 0, BOX, 11), 1);
        DUE.due("box(0), empty", x.box(0), NONE);
        DUE.due("box(1) of one", x.box(1), NONE);
        DUE.due("run", runOn(x, 0, BOX, 60), 1);
        DUE.due("box(17), empty", x.box(17), NONE);
        DUE.due("run", runOn(x, 0, BOX, 8), 1);
        DUE.due("box(0) of no places", x.box(0), NONE);
    }

    private static void drops() {
        DUE.sentence("DROPS of a VIAL; NONE: it is not in place.");
        BenchRuns x = new BenchRuns();
        for (int v = 0; v < 8; v++) {
            x.vial(v, 993 + v);
        }
        for (int v = 0; v < 8; v++) {
            DUE.due("drops(" + v + ")", x.drops(v), 993 + v);
        }
        x.vial(0, -1);
        x.vial(7, -1);
        DUE.due("drops(0)", x.drops(0), NONE);
        DUE.due("drops(7)", x.drops(7), NONE);
    }

    private static void dropsOutside() {
        DUE.sentence("DROPS of a VIAL", "OUTSIDE");
        BenchRuns x = new BenchRuns();
        for (int wrong : new int[] {-1, 8, 9, LOW, HIGH}) {
            DUE.due("drops(" + wrong + ")", x.drops(wrong), OUTSIDE);
        }
    }

    private static void sum() {
        DUE.sentence("DROPS of all VIALS.");
        BenchRuns x = new BenchRuns();
        DUE.due("at first", x.sum(), 0);
        for (int v = 0; v < 8; v++) {
            x.vial(v, 1000);
            DUE.due("vials 0 to " + v, x.sum(), 1000 * (v + 1));
        }
        for (int v = 0; v < 8; v++) {
            x.vial(v, -1);
            DUE.due("without vials 0 to " + v, x.sum(), 1000 * (7 - v));
        }
    }

    private static void run() {
        DUE.sentence("A RUN of BATCHES from one to another one (that is not below it): how many were begun, when"
            + " it comes to its end");
        BenchRuns x = new BenchRuns();
        for (int first = 0; first < 4; first++) {
            for (int last = first; last < 4; last++) {
                DUE.due("run(" + first + ", " + last + ")", x.run(first, last, false), last - first + 1);
            }
        }
        Due.round(x, 0, 0, BREAK, 0);
        x.batch(1, LENIENT);
        Due.round(x, 1, 0, FAIL, 0);
        Due.round(x, 2, 0, SKIP, 0);
        DUE.due("BREAK, NOTED, SKIP", x.run(0, 3, true), 4);
    }

    private static void runStopped() {
        DUE.sentence("100 and the n of that STEP, if it is STOPPED");
        BenchRuns x = new BenchRuns();
        for (int n : new int[] {0, 1, 200}) {
            DUE.due("STOP " + n, runOn(x, 0, STOP, n, STOP, 5), 100 + n);
        }
        Due.round(x, 1, 0, STOP, 6);
        DUE.due("the first one", x.run(0, 1, false), 300);
        DUE.due("the other one", x.run(1, 1, false), 106);
    }

    private static void runFailed() {
        DUE.sentence("if it is STOPPED; FAILED; TIRED.", "FAILED");
        BenchRuns x = new BenchRuns();
        DUE.due("FAIL", runOn(x, 0, FAIL, 0, STOP, 0), FAILED);
        DUE.due("STOP before FAIL", runOn(x, 0, STOP, 0, FAIL, 0), 100);
        Due.round(x, 3, 9);
        DUE.due("a round's vial", x.run(1, 3, false), FAILED);
    }

    private static void runTired() {
        DUE.sentence("if it is STOPPED; FAILED; TIRED.", "TIRED");
        BenchRuns x = new BenchRuns();
        DUE.due("AGAIN 200", runOn(x, 0, AGAIN, 200, STOP, 0), TIRED);
        DUE.due("AGAIN 199", runOn(x, 0, AGAIN, 199), 1);
    }

    private static void runOutside() {
        DUE.sentence("A RUN of BATCHES from one to another one (that is not below it)", "OUTSIDE");
        BenchRuns x = new BenchRuns();
        runOn(x, 0, FAIL, 3);
        int[][] wrong = {{-1, 0}, {0, 4}, {4, 4}, {1, 0}, {3, 2}, {3, 0}, {-1, -1}, {-1, 4}};
        for (int[] call : wrong) {
            DUE.due("run(" + call[0] + ", " + call[1] + ")", x.run(call[0], call[1], true), OUTSIDE);
        }
        for (int far : FAR) {
            DUE.due("run(" + far + ", 3)", x.run(far, 3, false), OUTSIDE);
            DUE.due("run(0, " + far + ")", x.run(0, far, false), OUTSIDE);
            DUE.due("run(" + far + ", " + far + ")", x.run(far, far, false), OUTSIDE);
        }
        DUE.due("the latest run is the one before: why(0)", x.why(0), 13);
        DUE.due("the latest run is the one before: told(7)", x.told(7), 6);
    }

    private static void why() {
        DUE.sentence("Of the FAILURE by which the latest run FAILED: 0 its number, 1 that of what stands behind"
            + " it, and so on");
        BenchRuns x = new BenchRuns();
        x.batch(3, STERN);
        for (int r = 0; r < 5; r++) {
            x.round(3, 0);
        }
        Due.round(x, 3, 0, GRID, 6);
        DUE.due("run", x.run(0, 3, true), FAILED);
        int[] chain = {33, 25, SIZE, 106, NONE};
        for (int k = 0; k < chain.length; k++) {
            DUE.due("why(" + k + ")", x.why(k), chain[k]);
        }
        dueFailed("a shorter chain behind a longer one", x, runOn(x, 0, FAIL, 0), 10);
    }

    private static void whyNone() {
        DUE.sentence("NONE: there is none such (k below 0, too).");
        BenchRuns x = new BenchRuns();
        DUE.due("before a run", x.why(0), NONE);
        dueFailed("run", x, runOn(x, 0, SHARE, 0), ZERO, 103);
        for (int k : new int[] {-1, 2, 3, 4, LOW, HIGH}) {
            DUE.due("why(" + k + ")", x.why(k), NONE);
        }
        for (int[] step : new int[][] {{ADD, 1}, {STOP, 1}, {AGAIN, 200}}) {
            runOn(x, 0, SHARE, 0);
            runOn(x, 0, step);
            DUE.due("kind " + step[0] + " behind a failed run", x.why(0), NONE);
        }
        x.batch(1, LENIENT);
        Due.round(x, 1, 0, FAIL, 0);
        DUE.due("a run with a NOTED one", x.run(1, 1, true), 1);
        DUE.due("why(0)", x.why(0), NONE);
    }

    private static void told() {
        DUE.sentence("0 VALVES that were OPENED, 1 SHUT, 2 HEATERS that went ON, 3 OFF, 4 LAMPS that were LIT, 5"
            + " OUT, 6 FAILURES that were NOTED, 7 how many the TRACE would have.");
        BenchRuns x = new BenchRuns();
        x.batch(1, LENIENT);
        Due.round(x, 1, 0, ADD, 1, FAIL, 1);
        Due.round(x, 1, 9);
        Due.round(x, 1, 0);
        DUE.due("run", x.run(0, 3, false), 4);
        DUE.dueRow("told", Due.tolds(x), 4, 4, 2, 2, 2, 2, 2, 16);
        DUE.due("run", runOn(x, 0, AGAIN, 200), TIRED);
        DUE.dueRow("told", Due.tolds(x), 1, 1, 1, 1, 200, 200, 0, 404);
    }

    private static void toldBefore() {
        DUE.sentence("Of the latest run (0 before)");
        BenchRuns x = new BenchRuns();
        DUE.dueRow("before a run", Due.tolds(x), 0, 0, 0, 0, 0, 0, 0, 0);
        x.run(1, 0, false);
        DUE.dueRow("behind a refused run", Due.tolds(x), 0, 0, 0, 0, 0, 0, 0, 0);
        runOn(x, 0, AGAIN, 200);
        x.run(3, 3, false);
        DUE.dueRow("only the latest run", Due.tolds(x), 1, 1, 0, 0, 0, 0, 0, 2);
    }

    private static void toldOutside() {
        DUE.sentence("7 how many the TRACE would have. OUTSIDE.", "OUTSIDE");
        BenchRuns x = new BenchRuns();
        for (int wrong : new int[] {-1, 8, LOW, HIGH}) {
            DUE.due("told(" + wrong + ")", x.told(wrong), OUTSIDE);
        }
    }

    private static void trace() {
        DUE.sentence("TRACE k of the latest run. NONE: there is none such.");
        BenchRuns x = new BenchRuns();
        DUE.due("before a run", x.trace(0), NONE);
        DUE.due("run", runOn(x, 0, AGAIN, 200), TIRED);
        for (int none : new int[] {-1, 400, 401, 403, 404, LOW, HIGH}) {
            DUE.due("trace(" + none + ") of 404", x.trace(none), NONE);
        }
        DUE.due("trace(0)", x.trace(0), 1);
        DUE.due("trace(399)", x.trace(399), 6);
        DUE.due("run", x.run(3, 3, false), 1);
        int[] latest = {1, 2, NONE, NONE};
        for (int k = 0; k < latest.length; k++) {
            DUE.due("trace(" + k + ") of 2", x.trace(k), latest[k]);
        }
        DUE.due("trace(399) of 2", x.trace(399), NONE);
    }

    private static void noted() {
        DUE.sentence("The number of NOTED FAILURE k of the latest run (24 at most are). NONE: there is none such.");
        BenchRuns x = new BenchRuns();
        DUE.due("before a run", x.noted(0), NONE);
        for (int b = 0; b < 4; b++) {
            x.batch(b, LENIENT);
            for (int r = 0; r < 6; r++) {
                Due.round(x, b, r == 5 ? 8 : 0, FAIL, (b + r) % 10);
            }
        }
        DUE.due("run", x.run(0, 3, true), 4);
        for (int k = 0; k < 24; k++) {
            DUE.due("noted(" + k + ")", x.noted(k), k % 6 == 5 ? INDEX : 10 + (k / 6 + k % 6) % 10);
        }
        for (int none : new int[] {-1, 24, 25, LOW, HIGH}) {
            DUE.due("noted(" + none + ")", x.noted(none), NONE);
        }
        DUE.due("run", x.run(3, 3, true), 1);
        DUE.due("noted(5) of the latest run", x.noted(5), INDEX);
        DUE.due("noted(6) of the latest run", x.noted(6), NONE);
    }
}
