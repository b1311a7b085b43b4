/** The sentences of 'Terms' that name a bound: vials, batches, rounds, steps and each of their kinds. */
public final class StepSentencesTest extends Sentences {
    private StepSentencesTest() {
    }

    public static void main(String[] args) {
        calls();
        vials();
        batches();
        rounds();
        roundVials();
        steps();
        numbering();
        numbers();
        stepsOnDrops();
        stepsThatLeave();
        stepsWithTools();
        stepsWithSizes();
        tools();
        nothingAtFirst();
        DUE.end();
    }

    private static void stepsOnDrops() {
        add();
        draw();
        share();
        pour();
        pourBounds();
    }

    private static void stepsThatLeave() {
        skip();
        breakOff();
        stop();
        fail();
        lack();
        again();
        againAtItsEnd();
        againOfAllAgains();
        againOfThisTime();
    }

    private static void stepsWithTools() {
        use();
        grip();
        gripGrowsFar();
        put();
        putOfNone();
    }

    private static void stepsWithSizes() {
        rack();
        box();
        boxSorts();
        boxIsEmpty();
        grid();
        count();
        raise();
    }

    private static void calls() {
        DUE.sentence("An object is used for at most 512 calls after it has been made");
        BenchRuns x = new BenchRuns();
        Due.round(x, 0, 0, ADD, 2);
        for (int call = 3; call <= 511; call++) {
            DUE.due("run as call " + call, x.run(0, 0, false), call <= 502 ? 1 : FAILED);
        }
        DUE.due("drops(0) as call 512", x.drops(0), 1000);
    }

    private static void vials() {
        DUE.sentence("VIALS 0 to 7 are in place or not; one that is has DROPS (0 to 1000).");
        BenchRuns x = new BenchRuns();
        for (int v = 0; v < 8; v++) {
            x.vial(v, 1000);
            DUE.due("drops(" + v + ")", x.drops(v), 1000);
            x.vial(v, 0);
            DUE.due("drops(" + v + ")", x.drops(v), 0);
            x.vial(v, -1);
            DUE.due("drops(" + v + ")", x.drops(v), NONE);
        }
        DUE.due("vial(-1, 0)", x.vial(-1, 0), OUTSIDE);
        DUE.due("vial(8, 0)", x.vial(8, 0), OUTSIDE);
        DUE.due("vial(0, 1001)", x.vial(0, 1001), OUTSIDE);
        DUE.due("drops(0)", x.drops(0), NONE);
    }

    private static void batches() {
        DUE.sentence("BATCHES 0 to 3 have a MODE (0 PLAIN, 1 LENIENT, 2 STERN)");
        for (int b = 0; b < 4; b++) {
            BenchRuns x = new BenchRuns();
            int[] answers = {FAILED, 1, FAILED};
            int[] whys = {19, NONE, 20};
            for (int mode = 0; mode < 3; mode++) {
                x.batch(b, mode);
                Due.round(x, b, 0, FAIL, 9);
                DUE.due("run of batch " + b + " in mode " + mode, x.run(b, b, false), answers[mode]);
                DUE.due("why(0)", x.why(0), whys[mode]);
            }
        }
        BenchRuns x = new BenchRuns();
        DUE.due("batch(-1, 0)", x.batch(-1, 0), OUTSIDE);
        DUE.due("batch(4, 0)", x.batch(4, 0), OUTSIDE);
        DUE.due("batch(0, -1)", x.batch(0, -1), OUTSIDE);
        DUE.due("batch(0, 3)", x.batch(0, 3), OUTSIDE);
    }

    private static void rounds() {
        DUE.sentence("and up to 6 ROUNDS");
        BenchRuns x = new BenchRuns();
        for (int b = 0; b < 4; b++) {
            for (int r = 0; r < 6; r++) {
                DUE.due("round " + r, x.round(b, 0), r);
                x.step(b, ADD, 1);
            }
            DUE.due("round 6", x.round(b, 0), FULL);
        }
        DUE.due("run(0, 3)", x.run(0, 3, false), 4);
        DUE.due("all rounds were done", x.drops(0), 24);
    }

    private static void roundVials() {
        DUE.sentence("each for a VIAL (0 to 9; 8, 9 are none)");
        for (int v = 0; v < 10; v++) {
            BenchRuns x = new BenchRuns();
            for (int place = 0; place < 8; place++) {
                x.vial(place, 0);
            }
            DUE.due("round(0, " + v + ")", x.round(0, v), 0);
            x.step(0, ADD, 5);
            DUE.due("run", x.run(0, 0, false), v < 8 ? 1 : FAILED);
            DUE.due("drops(" + v + ")", x.drops(v), v < 8 ? 5 : OUTSIDE);
            DUE.due("why(0)", x.why(0), v < 8 ? NONE : INDEX);
        }
        DUE.due("round(0, -1)", new BenchRuns().round(0, -1), OUTSIDE);
        DUE.due("round(0, 10)", new BenchRuns().round(0, 10), OUTSIDE);
    }

    private static void steps() {
        DUE.sentence("with up to 8 STEPS");
        BenchRuns x = new BenchRuns();
        for (int r = 0; r < 6; r++) {
            x.round(0, 0);
            for (int s = 0; s < 8; s++) {
                DUE.due("step " + s, x.step(0, ADD, 1), s);
            }
            DUE.due("step 8", x.step(0, ADD, 100), FULL);
        }
        DUE.due("run", x.run(0, 0, false), 1);
        DUE.due("all steps were done", x.drops(0), 48);
    }

    private static void numbering() {
        DUE.sentence("all numbered from 0 on");
        BenchRuns x = new BenchRuns();
        for (int b = 3; b >= 0; b--) {
            DUE.due("the first round of batch " + b, x.round(b, 0), 0);
            DUE.due("its first step", x.step(b, ADD, 0), 0);
            DUE.due("its next step", x.step(b, ADD, 0), 1);
            DUE.due("the next round", x.round(b, 0), 1);
            DUE.due("its first step", x.step(b, ADD, 0), 0);
        }
    }

    private static void numbers() {
        DUE.sentence("A STEP has a KIND and a number n (0 to 200, but as told)");
        for (int kind : new int[] {ADD, DRAW, SHARE, SKIP, BREAK, STOP, LACK, AGAIN}) {
            dueMostN(kind, 200);
        }
        BenchRuns x = new BenchRuns();
        x.round(0, 0);
        for (int kind : new int[] {-1, 18, LOW, HIGH}) {
            DUE.due("step(0, " + kind + ", 0)", x.step(0, kind, 0), OUTSIDE);
        }
        for (int kind = 0; kind < 8; kind++) {
            DUE.due("step(0, " + kind + ", 0)", x.step(0, kind, 0), kind);
        }
        x.round(0, 0);
        for (int kind = 10; kind < 18; kind++) {
            DUE.due("step(0, " + kind + ", 0)", x.step(0, kind, 0), kind - 10);
        }
    }

    private static void add() {
        DUE.sentence("0 ADD n DROPS.");
        DUE.due("0 and 0", dropsAfter(0, ADD, 0), 0);
        DUE.due("0 and 200", dropsAfter(0, ADD, 200), 200);
        DUE.due("999 and 1", dropsAfter(999, ADD, 1), 1000);
        DUE.due("800 and 200", dropsAfter(800, ADD, 200), 1000);
        DUE.due("1000 and 0", dropsAfter(1000, ADD, 0), 1000);
    }

    private static void draw() {
        DUE.sentence("1 DRAW n DROPS.");
        DUE.due("0 less 0", dropsAfter(0, DRAW, 0), 0);
        DUE.due("1 less 1", dropsAfter(1, DRAW, 1), 0);
        DUE.due("200 less 200", dropsAfter(200, DRAW, 200), 0);
        DUE.due("1000 less 200", dropsAfter(1000, DRAW, 200), 800);
    }

    private static void share() {
        DUE.sentence("2 SHARE: DROPS becomes DROPS / n (cut).");
        DUE.due("0 by 1", dropsAfter(0, SHARE, 1), 0);
        DUE.due("1000 by 1", dropsAfter(1000, SHARE, 1), 1000);
        DUE.due("8 by 3", dropsAfter(8, SHARE, 3), 2);
        DUE.due("9 by 3", dropsAfter(9, SHARE, 3), 3);
        DUE.due("199 by 200", dropsAfter(199, SHARE, 200), 0);
        DUE.due("200 by 200", dropsAfter(200, SHARE, 200), 1);
        DUE.due("999 by 200", dropsAfter(999, SHARE, 200), 4);
        DUE.due("a step behind it", dropsAfter(9, SHARE, 3, ADD, 1), 4);
    }

    private static void pour() {
        DUE.sentence("3 POUR: all DROPS go to VIAL n");
        int[][] cases = {{0, 0}, {0, 1000}, {1000, 0}, {1, 999}, {500, 500}};
        for (int[] drops : cases) {
            for (int to : new int[] {1, 7}) {
                BenchRuns x = new BenchRuns();
                x.vial(to, drops[1]);
                String text = drops[0] + " to " + drops[1] + " of vial " + to;
                DUE.due(text, runOn(x, drops[0], POUR, to, ADD, 7), 1);
                DUE.due(text + ": drops(0)", x.drops(0), 7);
                DUE.due(text + ": drops(" + to + ")", x.drops(to), drops[0] + drops[1]);
            }
        }
    }

    private static void pourBounds() {
        DUE.sentence("to VIAL n (0 to 9)");
        dueMostN(POUR, 9);
    }

    private static void skip() {
        DUE.sentence("4 SKIP: the ROUND ends.");
        for (int n : new int[] {0, 200}) {
            BenchRuns x = new BenchRuns();
            Due.round(x, 0, 0, SKIP, n, ADD, 1);
            Due.round(x, 0, 1, ADD, 1, ADD, 1, ADD, 1, ADD, 1, ADD, 1, ADD, 1, ADD, 1, SKIP, n);
            Due.round(x, 0, 2, ADD, 9);
            Due.round(x, 1, 3, SKIP, n);
            DUE.due("run", x.run(0, 1, true), 2);
            DUE.due("behind a first step", x.drops(0), 0);
            DUE.due("behind a last step", x.drops(1), 7);
            DUE.due("the next round", x.drops(2), 9);
            DUE.dueRow("told", Due.tolds(x), 2, 2, 4, 4, 11, 11, 0, 34);
        }
    }

    private static void breakOff() {
        DUE.sentence("5 BREAK: the BATCH ends.");
        for (int n : new int[] {0, 200}) {
            for (int mode = 0; mode < 3; mode++) {
                BenchRuns x = new BenchRuns();
                x.batch(0, mode);
                Due.round(x, 0, 0, ADD, 1, BREAK, n, ADD, 1);
                Due.round(x, 0, 1, ADD, 1);
                Due.round(x, 1, 2, ADD, 1);
                Due.round(x, 2, 3, BREAK, n);
                DUE.due("run", x.run(0, 2, true), 3);
                DUE.due("before it", x.drops(0), 1);
                DUE.due("the next round", x.drops(1), 0);
                DUE.due("the next batch", x.drops(2), 1);
                DUE.due("noted", x.told(6), 0);
            }
        }
    }

    private static void stop() {
        DUE.sentence("6 STOP: the run ends.");
        for (int mode = 0; mode < 3; mode++) {
            BenchRuns x = new BenchRuns();
            x.batch(0, mode);
            Due.round(x, 0, 0, ADD, 1, STOP, 0, ADD, 1);
            Due.round(x, 0, 1, ADD, 1);
            Due.round(x, 1, 2, ADD, 1);
            DUE.due("run", x.run(0, 1, true), 100);
            DUE.due("before it", x.drops(0), 1);
            DUE.due("the next round", x.drops(1), 0);
            DUE.due("the next batch", x.drops(2), 0);
            DUE.due("batches begun", x.told(0), 1);
        }
    }

    private static void fail() {
        DUE.sentence("7 FAIL (n 0 to 9).");
        dueMostN(FAIL, 9);
    }

    private static void lack() {
        DUE.sentence("8 LACK n: as SKIP, if there are fewer DROPS than n.");
        DUE.due("0, LACK 0", dropsAfter(0, LACK, 0, ADD, 1), 1);
        DUE.due("0, LACK 1", dropsAfter(0, LACK, 1, ADD, 1), 0);
        DUE.due("199, LACK 200", dropsAfter(199, LACK, 200, ADD, 1), 199);
        DUE.due("200, LACK 200", dropsAfter(200, LACK, 200, ADD, 1), 201);
        DUE.due("201, LACK 200", dropsAfter(201, LACK, 200, ADD, 1), 202);
        BenchRuns x = new BenchRuns();
        Due.round(x, 0, 0, LACK, 1);
        Due.round(x, 0, 1, ADD, 1);
        DUE.due("run", x.run(0, 0, false), 1);
        DUE.due("only the round ends", x.drops(1), 1);
    }

    private static void again() {
        DUE.sentence("9 AGAIN n: the ROUND's STEPS begin anew, if they did fewer than n times by its AGAINS");
        DUE.due("AGAIN 0", dropsAfter(0, ADD, 1, AGAIN, 0, ADD, 10), 11);
        DUE.due("AGAIN 1", dropsAfter(0, ADD, 1, AGAIN, 1, ADD, 10), 12);
        DUE.due("AGAIN 2", dropsAfter(0, ADD, 1, AGAIN, 2, ADD, 10), 13);
        DUE.due("AGAIN 98", dropsAfter(0, ADD, 1, AGAIN, 98, ADD, 10), 109);
        BenchRuns x = new BenchRuns();
        DUE.due("AGAIN 199 alone", runOn(x, 0, AGAIN, 199), 1);
        DUE.due("AGAIN 199 alone: lamps", x.told(4), 200);
        DUE.due("AGAIN 0 alone", runOn(x, 0, AGAIN, 0), 1);
        DUE.due("AGAIN 0 alone: lamps", x.told(4), 1);
    }

    private static void againAtItsEnd() {
        DUE.sentence("else nothing.");
        DUE.due("AGAIN 0 goes on", dropsAfter(0, AGAIN, 0, ADD, 10), 10);
        DUE.due("AGAIN 2 goes on", dropsAfter(0, AGAIN, 2, ADD, 10), 10);
        BenchRuns x = new BenchRuns();
        Due.round(x, 0, 0, AGAIN, 0);
        Due.round(x, 0, 0, ADD, 1);
        DUE.due("run", x.run(0, 0, false), 1);
        DUE.due("the next round is done", x.drops(0), 1);
        DUE.due("lamps", x.told(4), 2);
    }

    private static void againOfAllAgains() {
        DUE.sentence("by its AGAINS");
        DUE.due("the same n twice", dropsAfter(0, ADD, 1, AGAIN, 3, ADD, 10, AGAIN, 3), 14);
        DUE.due("a smaller one behind", dropsAfter(0, ADD, 1, AGAIN, 3, ADD, 10, AGAIN, 2), 14);
        DUE.due("a greater one behind", dropsAfter(0, ADD, 1, AGAIN, 3, ADD, 10, AGAIN, 4), 25);
    }

    private static void againOfThisTime() {
        DUE.sentence("(of this time that it is done)");
        BenchRuns x = new BenchRuns();
        Due.round(x, 0, 0, ADD, 1, AGAIN, 2);
        Due.round(x, 0, 0, ADD, 10, AGAIN, 2);
        Due.round(x, 1, 0, ADD, 100, AGAIN, 1);
        x.run(0, 1, false);
        DUE.due("each round by itself", x.drops(0), 233);
        x.run(0, 0, false);
        DUE.due("each run by itself", x.drops(0), 266);
        x.batch(0, PLAIN);
        Due.round(x, 0, 1, ADD, 1, AGAIN, 2, SKIP, 0);
        x.run(0, 0, false);
        x.run(0, 0, false);
        DUE.due("each run that is left early by itself", x.drops(1), 6);
    }

    private static void use() {
        DUE.sentence("10 USE (n 0 to 9): TOOL n has one USE more.");
        dueMostN(USE, 9);
        BenchRuns x = new BenchRuns();
        x.tool(0, CLAMP);
        x.tool(5, BRUSH);
        DUE.due("run", runOn(x, 0, USE, 0, USE, 5, AGAIN, 1, USE, 5), 1);
        DUE.due("USES of tool 0", x.about(0, 0), 2);
        DUE.due("USES of tool 5", x.about(5, 0), 3);
        DUE.due("GRIP of tool 0", x.about(0, 1), 0);
    }

    private static void grip() {
        DUE.sentence("11 GRIP (0 to 9): TOOL n, as a CLAMP, has GRIP: as many more as the VIAL has DROPS.");
        dueMostN(GRIP, 9);
        BenchRuns x = new BenchRuns();
        x.tool(0, CLAMP);
        x.tool(5, CLAMP);
        DUE.due("run with no drops", runOn(x, 0, GRIP, 0), 1);
        DUE.due("GRIP of no drops", x.about(0, 1), 0);
        DUE.due("run with 1000 drops", runOn(x, 1000, GRIP, 0, GRIP, 5, DRAW, 1, GRIP, 5), 1);
        DUE.due("GRIP of tool 0", x.about(0, 1), 1000);
        DUE.due("GRIP of tool 5", x.about(5, 1), 1999);
        DUE.due("the drops stay", x.drops(0), 999);
        DUE.due("USES of tool 5", x.about(5, 0), 0);
    }

    private static void gripGrowsFar() {
        DUE.sentence("has GRIP: as many more");
        BenchRuns x = new BenchRuns();
        x.tool(3, CLAMP);
        x.vial(0, 1000);
        Due.round(x, 0, 0, GRIP, 3, GRIP, 3, GRIP, 3, GRIP, 3, GRIP, 3, GRIP, 3, GRIP, 3, AGAIN, 200);
        for (int run = 0; run < 480; run++) {
            DUE.due("run", x.run(0, 0, false), TIRED);
        }
        DUE.due("GRIP", x.about(3, 1), 480 * 175 * 1000);
    }

    private static void rack() {
        DUE.sentence("12 RACK (0 to 40): a RACK of n - 10 places is there, in the old one's stead.");
        dueMostN(RACK, 40);
        BenchRuns x = new BenchRuns();
        for (int n : new int[] {10, 40, 11, 39, 10}) {
            DUE.due("RACK " + n, runOn(x, 0, RACK, n), 1);
            DUE.due("RACK " + n + ": places(0)", x.places(0), n - 10);
        }
    }

    private static void box() {
        DUE.sentence("13 BOX (0 to 60): a BOX of n / 3 - 2 places");
        dueMostN(BOX, 60);
        BenchRuns x = new BenchRuns();
        int[][] sizes = {{60, 18}, {6, 0}, {59, 17}, {7, 0}, {57, 17}, {8, 0}, {9, 1}, {11, 1}, {12, 2}};
        for (int[] size : sizes) {
            DUE.due("BOX " + size[0], runOn(x, 0, BOX, size[0]), 1);
            DUE.due("BOX " + size[0] + ": places(1)", x.places(1), size[1]);
        }
    }

    private static void boxSorts() {
        DUE.sentence("for CLAMPS alone (n % 3 is 0), BRUSHES alone (1), any TOOLS (2)");
        for (int n = 9; n < 12; n++) {
            BenchRuns x = new BenchRuns();
            x.tool(0, CLAMP);
            x.tool(1, BRUSH);
            DUE.due("a CLAMP, BOX " + n, runOn(x, 0, BOX, n, PUT, 0), n % 3 == 1 ? FAILED : 1);
            DUE.due("box(0)", x.box(0), n % 3 == 1 ? NONE : 0);
            DUE.due("a BRUSH, BOX " + n, runOn(x, 0, BOX, n, PUT, 1), n % 3 == 0 ? FAILED : 1);
            DUE.due("box(0)", x.box(0), n % 3 == 0 ? NONE : 1);
        }
    }

    private static void boxIsEmpty() {
        DUE.sentence("all empty");
        BenchRuns x = new BenchRuns();
        x.tool(4, BRUSH);
        DUE.due("run", runOn(x, 0, BOX, 59, PUT, 4, PUT, 94), 1);
        DUE.due("box(9)", x.box(9), 4);
        DUE.due("the same size anew", runOn(x, 0, BOX, 59), 1);
        for (int i = 0; i < 18; i++) {
            DUE.due("box(" + i + ")", x.box(i), NONE);
        }
        runOn(x, 0, PUT, 94, BOX, 8);
        runOn(x, 0, BOX, 59);
        DUE.due("behind a box of no places: box(9)", x.box(9), NONE);
    }

    private static void grid() {
        DUE.sentence("14 GRID (0 to 35): a GRID of n / 6 - 1 rows of n % 6 - 1 places.");
        dueMostN(GRID, 35);
        BenchRuns x = new BenchRuns();
        int[][] sizes = {{35, 4, 4}, {7, 0, NONE}, {31, 4, 0}, {11, 0, NONE}, {13, 1, 0}, {14, 1, 1}, {17, 1, 4}};
        for (int[] size : sizes) {
            DUE.due("GRID " + size[0], runOn(x, 0, GRID, size[0]), 1);
            DUE.due("GRID " + size[0] + ": places(2)", x.places(2), size[1]);
            DUE.due("GRID " + size[0] + ": places(3)", x.places(3), size[2]);
        }
    }

    private static void put() {
        DUE.sentence("15 PUT (0 to 99): TOOL n % 10 comes to place n / 10 of the BOX");
        dueMostN(PUT, 99);
        BenchRuns x = new BenchRuns();
        x.tool(0, CLAMP);
        x.tool(5, BRUSH);
        DUE.due("run", runOn(x, 0, BOX, 38, PUT, 0, PUT, 95, PUT, 50, PUT, 45), 1);
        int[] lies = {0, NONE, NONE, NONE, 5, 0, NONE, NONE, NONE, 5};
        for (int i = 0; i < 10; i++) {
            DUE.due("box(" + i + ")", x.box(i), lies[i]);
        }
        DUE.due("run", runOn(x, 0, PUT, 5), 1);
        DUE.due("in another one's stead", x.box(0), 5);
    }

    private static void putOfNone() {
        DUE.sentence("(an empty one, if there is no such TOOL in place)");
        for (int n = 12; n < 15; n++) {
            BenchRuns x = new BenchRuns();
            x.tool(0, n == 13 ? BRUSH : CLAMP);
            DUE.due("PUT of tool 5", runOn(x, 0, BOX, n, PUT, 5), 1);
            DUE.due("box(0)", x.box(0), NONE);
            DUE.due("PUT of tool 5 over tool 0", runOn(x, 0, PUT, 0, PUT, 10, PUT, 5), 1);
            DUE.due("box(0)", x.box(0), NONE);
            DUE.due("box(1)", x.box(1), 0);
            x.tool(0, -1);
            DUE.due("PUT of tool 0, gone meanwhile", runOn(x, 0, PUT, 10), 1);
            DUE.due("box(1)", x.box(1), NONE);
        }
    }

    private static void count() {
        DUE.sentence("16 COUNT (0 to 2): as many DROPS more as the RACK (0), the BOX (1) has places, the GRID (2)"
            + " has rows.");
        dueMostN(COUNT, 2);
        DUE.due("a RACK of 0", dropsAfter(7, RACK, 10, COUNT, 0), 7);
        DUE.due("a RACK of 30", dropsAfter(970, RACK, 40, COUNT, 0), 1000);
        DUE.due("a BOX of 0", dropsAfter(7, BOX, 8, COUNT, 1), 7);
        DUE.due("a BOX of 18", dropsAfter(982, BOX, 60, COUNT, 1), 1000);
        DUE.due("a GRID of 0 rows", dropsAfter(7, GRID, 11, COUNT, 2), 7);
        DUE.due("a GRID of 4 rows of 0", dropsAfter(996, GRID, 31, COUNT, 2), 1000);
        DUE.due("a GRID of 1 row of 4", dropsAfter(7, GRID, 17, COUNT, 2), 8);
    }

    private static void raise() {
        DUE.sentence("17 RAISE (0 to 3): the FAILURE that is LAID at n comes.");
        dueMostN(RAISE, 3);
        BenchRuns x = new BenchRuns();
        for (int k = 0; k < 4; k++) {
            x.lay(k, 40 + k);
        }
        for (int k = 0; k < 4; k++) {
            dueFailed("RAISE " + k, x, runOn(x, 0, RAISE, k, ADD, 1), 40 + k);
            dueFailed("RAISE " + k + " again", x, x.run(0, 0, false), 40 + k);
            DUE.due("no step behind it", x.drops(0), 0);
        }
    }

    private static void tools() {
        DUE.sentence("TOOLS 0 to 5 are in place or not (none is at first): CLAMPS, BRUSHES, each with USES, CLAMPS"
            + " with GRIP (0 at first).");
        BenchRuns x = new BenchRuns();
        for (int t = 0; t < 6; t++) {
            DUE.due("about(" + t + ", 2) at first", x.about(t, 2), STATE);
            for (int sort = 0; sort < 2; sort++) {
                x.tool(t, sort);
                DUE.due("USES at first", x.about(t, 0), 0);
                DUE.due("GRIP at first", x.about(t, 1), 0);
                DUE.due("its sort", x.about(t, 2), sort);
            }
        }
        DUE.due("tool(-1, 0)", x.tool(-1, CLAMP), OUTSIDE);
        DUE.due("tool(6, 0)", x.tool(6, CLAMP), OUTSIDE);
    }

    private static void nothingAtFirst() {
        DUE.sentence("There is no RACK, BOX, GRID, nothing is LAID at first.");
        for (int k = 0; k < 4; k++) {
            BenchRuns x = new BenchRuns();
            DUE.due("places(" + k + ")", x.places(k), NONE);
            DUE.due("box(" + k + ")", x.box(k), NONE);
            dueFailed("RAISE " + k, x, runOn(x, 0, RAISE, k), NOTHING, 105);
            DUE.due("lay(" + k + ", 0)", x.lay(k, 0), 0);
        }
        for (int n = 0; n < 3; n++) {
            BenchRuns x = new BenchRuns();
            dueFailed("COUNT " + n, x, runOn(x, 0, COUNT, n), NOTHING, 105);
        }
    }
}
