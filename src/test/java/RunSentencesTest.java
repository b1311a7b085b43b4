/** The sentences on how a run goes: what is opened, put on and lit, and shut again on every way out. */
public final class RunSentencesTest extends Sentences {
    private static final String LEFT = "What is left by SKIP, AGAIN, BREAK, STOP, a FAILURE, or to its end, is left"
        + " from within: LAMP, then HEATER, then VALVE, as far as these are left.";
    private static final String TIRES = "Behind 200 LAMPS of a run the next STEP is not LIT: it is TIRED, and ends,"
        + " as all is left.";
    private static final int OPENED = 1, SHUT = 2, ON = 3, OFF = 4, LIT = 5, OUT = 6;

    private RunSentencesTest() {
    }

    public static void main(String[] args) {
        order();
        valves();
        vialIsLookedAt();
        heaters();
        lamps();
        leftBySkip();
        leftByAgain();
        leftByBreak();
        leftByStop();
        leftByFailure();
        leftToItsEnd();
        tired();
        lampsOfARun();
        lastLamp();
        notLit();
        tiredLeavesAll();
        DUE.end();
    }

    private static void order() {
        DUE.sentence("A RUN does BATCHES in their order.");
        BenchRuns x = new BenchRuns();
        x.batch(3, PLAIN);
        Due.round(x, 3, 0, SHARE, 2);
        Due.round(x, 0, 0, ADD, 100);
        Due.round(x, 2, 0, ADD, 10);
        Due.round(x, 1, 0, SHARE, 4);
        DUE.due("run(0, 3)", x.run(0, 3, false), 4);
        DUE.due("((0 + 100) / 4 + 10) / 2", x.drops(0), 17);
        DUE.due("run(3, 3)", x.run(3, 3, false), 1);
        DUE.due("17 / 2", x.drops(0), 8);
        DUE.due("run(1, 2)", x.run(1, 2, false), 2);
        DUE.due("8 / 4 + 10", x.drops(0), 12);
    }

    private static void valves() {
        DUE.sentence("For each its VALVE is OPENED, and SHUT when it is left.");
        BenchRuns x = new BenchRuns();
        DUE.due("a batch without rounds", x.run(2, 2, false), 1);
        DUE.dueRow("trace", Due.traces(x), OPENED, SHUT);
        DUE.due("four of them", x.run(0, 3, false), 4);
        DUE.dueRow("trace", Due.traces(x), OPENED, SHUT, OPENED, SHUT, OPENED, SHUT, OPENED, SHUT);
    }

    private static void vialIsLookedAt() {
        DUE.sentence("its VIAL is looked at (INDEX, NOTHING); its HEATER goes ON");
        int[][] cases = {{7, NOTHING}, {8, INDEX}, {9, INDEX}, {4, NOTHING}};
        for (int[] one : cases) {
            BenchRuns x = new BenchRuns();
            Due.round(x, 0, one[0]);
            dueFailed("vial " + one[0] + ", no steps", x, x.run(0, 0, false), one[1], 100 + one[1]);
            DUE.dueRow("no heater", Due.traces(x), OPENED, SHUT);
            x.step(0, AGAIN, 200);
            dueFailed("vial " + one[0], x, x.run(0, 0, false), one[1], 100 + one[1]);
            DUE.dueRow("no lamp", Due.traces(x), OPENED, SHUT);
        }
        BenchRuns x = new BenchRuns();
        x.vial(7, 0);
        Due.round(x, 0, 7);
        DUE.due("vial 7 in place, with no drops", x.run(0, 0, false), 1);
    }

    private static void heaters() {
        DUE.sentence("its HEATER goes ON, and OFF when the ROUND is left.");
        BenchRuns x = new BenchRuns();
        Due.round(x, 0, 0);
        Due.round(x, 0, 0);
        DUE.due("rounds without steps", x.run(0, 0, false), 1);
        DUE.dueRow("trace", Due.traces(x), OPENED, ON, OFF, ON, OFF, SHUT);
    }

    private static void lamps() {
        DUE.sentence("its LAMP is LIT, and OUT when the STEP is left.");
        BenchRuns x = new BenchRuns();
        Due.round(x, 0, 0, ADD, 0, LACK, 0, AGAIN, 0);
        DUE.due("steps that do nothing", x.run(0, 0, false), 1);
        DUE.dueRow("trace", Due.traces(x), OPENED, ON, LIT, OUT, LIT, OUT, LIT, OUT, OFF, SHUT);
    }

    private static void leftBySkip() {
        DUE.sentence(LEFT, "SKIP");
        for (int kind : new int[] {SKIP, LACK}) {
            BenchRuns x = new BenchRuns();
            Due.round(x, 0, 0, kind, 1, ADD, 1);
            Due.round(x, 0, 0);
            DUE.due("run", x.run(0, 0, false), 1);
            DUE.dueRow("trace", Due.traces(x), OPENED, ON, LIT, OUT, OFF, ON, OFF, SHUT);
        }
    }

    private static void leftByAgain() {
        DUE.sentence(LEFT, "AGAIN");
        BenchRuns x = new BenchRuns();
        Due.round(x, 0, 0, ADD, 1, AGAIN, 1);
        DUE.due("run", x.run(0, 0, false), 1);
        DUE.dueRow("only the lamp is left", Due.traces(x),
            OPENED, ON, LIT, OUT, LIT, OUT, LIT, OUT, LIT, OUT, OFF, SHUT);
    }

    private static void leftByBreak() {
        DUE.sentence(LEFT, "BREAK");
        BenchRuns x = new BenchRuns();
        Due.round(x, 0, 0, BREAK, 0, ADD, 1);
        Due.round(x, 0, 0);
        DUE.due("run", x.run(0, 1, false), 2);
        DUE.dueRow("trace", Due.traces(x), OPENED, ON, LIT, OUT, OFF, SHUT, OPENED, SHUT);
    }

    private static void leftByStop() {
        DUE.sentence(LEFT, "STOP");
        BenchRuns x = new BenchRuns();
        Due.round(x, 0, 0, STOP, 0, ADD, 1);
        Due.round(x, 0, 0);
        DUE.due("run", x.run(0, 1, false), 100);
        DUE.dueRow("trace", Due.traces(x), OPENED, ON, LIT, OUT, OFF, SHUT);
    }

    private static void leftByFailure() {
        DUE.sentence(LEFT, "a FAILURE");
        BenchRuns x = new BenchRuns();
        x.batch(1, LENIENT);
        x.batch(2, STERN);
        for (int b = 0; b < 3; b++) {
            Due.round(x, b, 0, FAIL, 0, ADD, 1);
            Due.round(x, b, 0);
        }
        DUE.due("PLAIN", x.run(0, 3, true), FAILED);
        DUE.dueRow("PLAIN: trace", Due.traces(x), OPENED, ON, LIT, OUT, OFF, SHUT);
        DUE.due("LENIENT", x.run(1, 1, true), 1);
        DUE.dueRow("LENIENT: trace", Due.traces(x), OPENED, ON, LIT, OUT, OFF, ON, OFF, SHUT);
        DUE.due("STERN", x.run(2, 3, true), FAILED);
        DUE.dueRow("STERN: trace", Due.traces(x), OPENED, ON, LIT, OUT, OFF, SHUT);
    }

    private static void leftToItsEnd() {
        DUE.sentence(LEFT, "to its end");
        BenchRuns x = new BenchRuns();
        Due.round(x, 0, 0, ADD, 1);
        Due.round(x, 1, 0, ADD, 1);
        DUE.due("run", x.run(0, 1, false), 2);
        DUE.dueRow("trace", Due.traces(x), OPENED, ON, LIT, OUT, OFF, SHUT, OPENED, ON, LIT, OUT, OFF, SHUT);
    }

    private static void tired() {
        DUE.sentence(TIRES, "behind 200");
        BenchRuns x = new BenchRuns();
        DUE.due("199 lamps", runOn(x, 0, AGAIN, 198), 1);
        DUE.due("199 lamps: told(4)", x.told(4), 199);
        DUE.due("200 lamps", runOn(x, 0, AGAIN, 199), 1);
        DUE.due("200 lamps: told(4)", x.told(4), 200);
        DUE.due("a step behind 199", runOn(x, 0, AGAIN, 198, ADD, 1), 1);
        DUE.due("a step behind 199: drops", x.drops(0), 1);
        DUE.due("a step behind 200", runOn(x, 0, AGAIN, 199, ADD, 1), TIRED);
        DUE.due("a step behind 200: drops", x.drops(0), 0);
        DUE.due("a step begun anew behind 200", runOn(x, 0, AGAIN, 200), TIRED);
        DUE.due("a step begun anew behind 200: told(4)", x.told(4), 200);
    }

    private static void lampsOfARun() {
        DUE.sentence(TIRES, "of a run");
        BenchRuns x = new BenchRuns();
        Due.round(x, 0, 0, AGAIN, 99);
        Due.round(x, 0, 0, AGAIN, 49);
        Due.round(x, 3, 0, AGAIN, 49);
        DUE.due("rounds and batches together", x.run(0, 3, false), 4);
        DUE.due("told(4)", x.told(4), 200);
        DUE.due("each run by itself", x.run(0, 3, false), 4);
        DUE.due("told(4)", x.told(4), 200);
        x.step(3, ADD, 1);
        DUE.due("one step more", x.run(0, 3, false), TIRED);
        DUE.due("the run behind a tired one", x.run(1, 3, false), 3);
        DUE.due("told(4)", x.told(4), 51);
    }

    private static void lastLamp() {
        DUE.sentence(TIRES, "what step 200 does, and step 201 does not");
        int[][] steps = {{SKIP, 0, 1}, {BREAK, 0, 1}, {STOP, 7, 107}, {FAIL, 3, FAILED}, {ADD, 1, 1}};
        for (int[] step : steps) {
            BenchRuns x = new BenchRuns();
            String text = "kind " + step[0];
            DUE.due(text + " by lamp 200", runOn(x, 0, AGAIN, 198, step[0], step[1]), step[2]);
            DUE.due(text + " by lamp 200: told(4)", x.told(4), 200);
            DUE.due(text + " by none", runOn(x, 0, AGAIN, 199, step[0], step[1]), TIRED);
            DUE.due(text + " by none: told(4)", x.told(4), 200);
            DUE.due(text + " by none: why(0)", x.why(0), NONE);
        }
    }

    private static void notLit() {
        DUE.sentence(TIRES, "a STEP, no ROUND");
        BenchRuns x = new BenchRuns();
        Due.round(x, 0, 0, AGAIN, 199);
        Due.round(x, 0, 1);
        Due.round(x, 1, 1);
        DUE.due("no step behind 200 lamps, but rounds", x.run(0, 3, false), 4);
        DUE.dueRow("told", Due.tolds(x), 4, 4, 3, 3, 200, 200, 0, 414);
        Due.round(x, 2, 7, ADD, 1);
        dueFailed("a vial that is not there behind 200 lamps", x, x.run(0, 3, false), NOTHING, 105);
        DUE.dueRow("told", Due.tolds(x), 3, 3, 3, 3, 200, 200, 0, 412);
    }

    private static void tiredLeavesAll() {
        DUE.sentence(TIRES, "all is left");
        for (int mode = 0; mode < 3; mode++) {
            BenchRuns x = new BenchRuns();
            x.batch(1, mode);
            Due.round(x, 1, 0, AGAIN, 196);
            Due.round(x, 1, 0, ADD, 1, ADD, 1, ADD, 1, ADD, 100);
            Due.round(x, 1, 1, ADD, 1);
            Due.round(x, 2, 2, ADD, 1);
            DUE.due("run in mode " + mode, x.run(0, 3, true), TIRED);
            DUE.dueRow("told", Due.tolds(x), 2, 2, 2, 2, 200, 200, 0, 408);
            DUE.due("what was done stays", x.drops(0), 3);
            DUE.due("no next round", x.drops(1), 0);
            DUE.due("no next batch", x.drops(2), 0);
            DUE.due("no failure", x.why(0), NONE);
        }
    }
}
