/** Promises 5 and 11: what each kind of step does, and how it fails. */
public final class StepKindsTest {
    private static final int NONE = BenchRuns.NONE, FAILED = BenchRuns.FAILED;
    private static final Due DUE = new Due();

    public static void main(String[] args) {
        addAndDraw();
        share();
        pour();
        skipAndLack();
        breakAndStop();
        fail();
        again();
        useAndGrip();
        putFailures();
        count();
        raise();
        failedSteps();
        DUE.end();
    }

    /** One round for a vial with so many drops: the run's answer. */
    private static int runOn(BenchRuns x, int vial, int drops, int... steps) {
        x.batch(0, 0);
        x.vial(vial, drops);
        Due.round(x, 0, vial, steps);
        return x.run(0, 0, false);
    }

    private static void dueFailure(String text, BenchRuns x, int answer, int... whys) {
        DUE.due(text, answer, FAILED);
        DUE.dueRow(text + ": why", Due.whys(x), whys);
    }

    private static void addAndDraw() {
        BenchRuns x = new BenchRuns();
        DUE.due("ADD up to 1000", runOn(x, 0, 800, 0, 200, 0, 0), 1);
        DUE.due("ADD up to 1000: drops", x.drops(0), 1000);
        dueFailure("ADD above 1000", x, runOn(x, 0, 801, 0, 200), 1);
        DUE.due("ADD above 1000: drops", x.drops(0), 801);
        DUE.due("DRAW all", runOn(x, 0, 200, 1, 200, 1, 0), 1);
        DUE.due("DRAW all: drops", x.drops(0), 0);
        dueFailure("DRAW more", x, runOn(x, 0, 199, 1, 200), 2);
        DUE.due("DRAW more: drops", x.drops(0), 199);
    }

    private static void share() {
        BenchRuns x = new BenchRuns();
        DUE.due("SHARE", runOn(x, 0, 1000, 2, 1, 2, 7), 1);
        DUE.due("SHARE: drops", x.drops(0), 142);
        DUE.due("SHARE by more", runOn(x, 0, 199, 2, 200), 1);
        DUE.due("SHARE by more: drops", x.drops(0), 0);
        dueFailure("SHARE by 0", x, runOn(x, 0, 5, 2, 0), 3, 103);
        DUE.due("SHARE by 0: drops", x.drops(0), 5);
    }

    private static void pour() {
        BenchRuns x = new BenchRuns();
        x.vial(1, 400);
        DUE.due("POUR up to 1000", runOn(x, 0, 600, 3, 1), 1);
        DUE.due("POUR up to 1000: from", x.drops(0), 0);
        DUE.due("POUR up to 1000: to", x.drops(1), 1000);
        dueFailure("POUR above 1000", x, runOn(x, 0, 1, 3, 1), 1);
        DUE.due("POUR above 1000: from", x.drops(0), 1);
        DUE.due("POUR above 1000: to", x.drops(1), 1000);
        DUE.due("POUR into itself", runOn(x, 0, 900, 3, 0), 1);
        DUE.due("POUR into itself: drops", x.drops(0), 900);
        DUE.due("POUR into itself, then ADD", runOn(x, 0, 900, 3, 0, 0, 1), 1);
        DUE.due("POUR into itself, then ADD: drops", x.drops(0), 901);
        DUE.due("POUR, then ADD", runOn(x, 0, 900, 3, 2, 0, 1), 1);
        DUE.due("POUR, then ADD: from", x.drops(0), 1);
        DUE.due("POUR, then ADD: to", x.drops(2), 900);
        dueFailure("POUR to 8", x, runOn(x, 0, 900, 3, 8), 4, 104);
        dueFailure("POUR to 9", x, runOn(x, 0, 900, 3, 9), 4, 104);
        dueFailure("POUR to one that is not there", x, runOn(x, 0, 900, 3, 7), 5, 105);
        DUE.due("POUR to none: drops", x.drops(0), 900);
        x.vial(7, 0);
        DUE.due("POUR to 7", runOn(x, 0, 900, 3, 7), 1);
        DUE.due("POUR to 7: to", x.drops(7), 900);
    }

    private static void skipAndLack() {
        BenchRuns x = new BenchRuns();
        Due.round(x, 0, 0, 0, 1, 4, 9, 0, 100);
        Due.round(x, 0, 1, 0, 2);
        DUE.due("SKIP", x.run(0, 0, false), 1);
        DUE.due("SKIP: drops(0)", x.drops(0), 1);
        DUE.due("SKIP: drops(1)", x.drops(1), 2);
        DUE.dueRow("SKIP: trace", Due.traces(x), 1, 3, 5, 6, 5, 6, 4, 3, 5, 6, 4, 2);
        DUE.due("LACK of fewer", runOn(x, 0, 9, 8, 10, 0, 100), 1);
        DUE.due("LACK of fewer: drops", x.drops(0), 9);
        Due.round(x, 0, 1, 0, 30);
        DUE.due("LACK, then another round", x.run(0, 0, false), 1);
        DUE.due("LACK, then another round: drops(0)", x.drops(0), 9);
        DUE.due("LACK, then another round: drops(1)", x.drops(1), 32);
        DUE.due("LACK of as many", runOn(x, 0, 10, 8, 10, 0, 100), 1);
        DUE.due("LACK of as many: drops", x.drops(0), 110);
        DUE.due("LACK 0", runOn(x, 0, 0, 8, 0, 0, 100), 1);
        DUE.due("LACK 0: drops", x.drops(0), 100);
    }

    private static void breakAndStop() {
        BenchRuns x = new BenchRuns();
        x.batch(0, 1);
        Due.round(x, 0, 0, 5, 3, 0, 1);
        Due.round(x, 0, 0, 0, 10);
        Due.round(x, 1, 0, 0, 100);
        DUE.due("BREAK", x.run(0, 1, true), 2);
        DUE.due("BREAK: drops", x.drops(0), 100);
        DUE.dueRow("BREAK: trace", Due.traces(x), 1, 3, 5, 6, 4, 2, 1, 3, 5, 6, 4, 2);
        for (int n : new int[] {0, 1, 200}) {
            BenchRuns y = new BenchRuns();
            y.batch(1, 2);
            Due.round(y, 1, 0, 6, n, 0, 1);
            Due.round(y, 1, 0, 0, 10);
            Due.round(y, 2, 0, 0, 100);
            DUE.due("STOP " + n, y.run(0, 3, true), 100 + n);
            DUE.due("STOP " + n + ": drops", y.drops(0), 0);
            DUE.dueRow("STOP " + n + ": trace", Due.traces(y), 1, 2, 1, 3, 5, 6, 4, 2);
            DUE.dueRow("STOP " + n + ": why", Due.whys(y));
        }
    }

    private static void fail() {
        BenchRuns x = new BenchRuns();
        for (int n = 0; n < 10; n++) {
            dueFailure("FAIL " + n, x, runOn(x, 0, 0, 7, n, 0, 1), 10 + n);
            DUE.due("FAIL " + n + ": drops", x.drops(0), 0);
        }
    }

    private static void again() {
        BenchRuns x = new BenchRuns();
        DUE.due("AGAIN 0", runOn(x, 0, 0, 0, 1, 9, 0, 0, 100), 1);
        DUE.due("AGAIN 0: drops", x.drops(0), 101);
        DUE.due("AGAIN 3", runOn(x, 0, 0, 0, 1, 9, 3, 0, 100), 1);
        DUE.due("AGAIN 3: drops", x.drops(0), 104);
        DUE.due("AGAIN 3: heaters", x.told(2), 1);
        DUE.due("AGAIN 3: lamps", x.told(4), 9);
        DUE.due("AGAINS of one round", runOn(x, 0, 0, 0, 1, 9, 2, 0, 10, 9, 4), 1);
        DUE.due("AGAINS of one round: drops", x.drops(0), 35);
        x.batch(0, 0);
        x.vial(0, 0);
        Due.round(x, 0, 0, 0, 1, 9, 2);
        Due.round(x, 0, 0, 0, 10, 9, 1);
        DUE.due("AGAINS of two rounds", x.run(0, 0, false), 1);
        DUE.due("AGAINS of two rounds: drops", x.drops(0), 23);
        x.run(0, 0, false);
        DUE.due("AGAINS of two runs: drops", x.drops(0), 46);
    }

    private static void useAndGrip() {
        BenchRuns x = new BenchRuns();
        x.tool(0, 0);
        x.tool(1, 1);
        for (int tool = 6; tool < 10; tool++) {
            dueFailure("USE " + tool, x, runOn(x, 0, 1, 10, tool), 4, 104);
            dueFailure("GRIP " + tool, x, runOn(x, 0, 1, 11, tool), 4, 104);
        }
        for (int tool = 2; tool < 6; tool++) {
            dueFailure("USE " + tool, x, runOn(x, 0, 1, 10, tool), 5, 105);
            dueFailure("GRIP " + tool, x, runOn(x, 0, 1, 11, tool), 5, 105);
        }
        dueFailure("GRIP of a brush", x, runOn(x, 0, 1, 11, 1), 7, 107);
        DUE.due("GRIP of a brush: GRIP", x.about(1, 1), 0);
        DUE.due("USE of a brush", runOn(x, 0, 1, 10, 1), 1);
        DUE.due("USE of a brush: USES", x.about(1, 0), 1);
        DUE.due("GRIP of a clamp", runOn(x, 0, 1000, 11, 0, 1, 200, 11, 0), 1);
        DUE.due("GRIP of a clamp: GRIP", x.about(0, 1), 1800);
        DUE.due("GRIP of a clamp: USES", x.about(0, 0), 0);
        DUE.due("GRIP of a clamp: drops", x.drops(0), 800);
    }

    private static void putFailures() {
        BenchRuns x = new BenchRuns();
        x.tool(0, 0);
        x.tool(1, 1);
        for (int tool = 6; tool < 10; tool++) {
            dueFailure("PUT " + tool + " without a box", x, runOn(x, 0, 0, 15, tool), 4, 104);
        }
        dueFailure("PUT without a box", x, runOn(x, 0, 0, 15, 90), 5, 105);
        dueFailure("PUT of no tool without a box", x, runOn(x, 0, 0, 15, 5), 5, 105);
        dueFailure("PUT into a box of no size", x, runOn(x, 0, 0, 13, 8, 15, 0), 4, 104);
        dueFailure("PUT of none into no place", x, runOn(x, 0, 0, 13, 8, 15, 5), 4, 104);
        dueFailure("PUT of another sort at no place", x, runOn(x, 0, 0, 13, 9, 15, 11), 4, 104);
        dueFailure("a brush into a box for clamps", x, runOn(x, 0, 0, 13, 9, 15, 1), 8, 108);
        dueFailure("a clamp into a box for brushes", x, runOn(x, 0, 0, 13, 10, 15, 0), 8, 108);
        DUE.due("a clamp, none into a box for clamps", runOn(x, 0, 0, 13, 12, 15, 0, 15, 15), 1);
        DUE.due("box(0)", x.box(0), 0);
        DUE.due("a brush, none into a box for brushes", runOn(x, 0, 0, 13, 13, 15, 1, 15, 15), 1);
        DUE.due("box(0)", x.box(0), 1);
        DUE.due("both into a box for any", runOn(x, 0, 0, 13, 14, 15, 1, 15, 10), 1);
        DUE.due("box(0)", x.box(0), 1);
        DUE.due("box(1)", x.box(1), 0);
        dueFailure("what lay there before", x, runOn(x, 0, 0, 13, 12, 15, 0, 15, 1), 8, 108);
        DUE.due("what lay there before: box(0)", x.box(0), 0);
    }

    private static void count() {
        BenchRuns x = new BenchRuns();
        for (int what = 0; what < 3; what++) {
            dueFailure("COUNT " + what + " of none", x, runOn(x, 0, 1000, 16, what), 5, 105);
        }
        DUE.due("COUNT of what has no size", runOn(x, 0, 1000, 12, 10, 13, 6, 14, 7, 16, 0, 16, 1, 16, 2), 1);
        DUE.due("COUNT of what has no size: drops", x.drops(0), 1000);
        DUE.due("COUNT", runOn(x, 0, 0, 12, 40, 13, 60, 14, 35, 16, 0), 1);
        DUE.due("COUNT 0: drops", x.drops(0), 30);
        runOn(x, 0, 0, 16, 1);
        DUE.due("COUNT 1: drops", x.drops(0), 18);
        runOn(x, 0, 0, 16, 2);
        DUE.due("COUNT 2: drops", x.drops(0), 4);
        DUE.due("COUNT up to 1000", runOn(x, 0, 970, 16, 0), 1);
        dueFailure("COUNT above 1000", x, runOn(x, 0, 971, 16, 0), 1);
        DUE.due("COUNT above 1000: drops", x.drops(0), 971);
    }

    private static void raise() {
        for (int k = 0; k < 4; k++) {
            BenchRuns x = new BenchRuns();
            dueFailure("RAISE " + k + " of nothing", x, runOn(x, 0, 0, 17, k), 5, 105);
            x.lay(k, 8);
            dueFailure("RAISE " + k + " of 8", x, runOn(x, 0, 0, 17, k), 8);
            dueFailure("RAISE " + k + " of 8 again", x, runOn(x, 0, 0, 17, k), 8);
            DUE.due("what is LAID stays", x.lay(k, 0), 8);
            dueFailure("RAISE " + k + " of nothing more", x, runOn(x, 0, 0, 17, k), 5, 105);
        }
        for (int number = 1; number < 100; number++) {
            BenchRuns x = new BenchRuns();
            x.lay(number % 4, number);
            dueFailure("RAISE of " + number, x, runOn(x, 0, 0, 17, number % 4), number);
        }
    }

    private static void failedSteps() {
        BenchRuns x = new BenchRuns();
        runOn(x, 0, 0, 12, 13, 13, 12, 14, 20);
        dueFailure("a rack below no size", x, runOn(x, 0, 0, 12, 9), 6, 106);
        dueFailure("a box below no size", x, runOn(x, 0, 0, 13, 5), 6, 106);
        dueFailure("a grid of rows below no size", x, runOn(x, 0, 0, 14, 6), 6, 106);
        dueFailure("a grid below no rows", x, runOn(x, 0, 0, 14, 5), 6, 106);
        dueFailure("a grid of many rows below no size", x, runOn(x, 0, 0, 14, 30), 6, 106);
        DUE.due("the old rack", x.places(0), 3);
        DUE.due("the old box", x.places(1), 2);
        DUE.due("the old grid", x.places(2), 2);
        DUE.due("the old grid's row", x.places(3), 1);
        DUE.due("a smaller rack", runOn(x, 0, 0, 12, 10), 1);
        DUE.due("a smaller rack: places", x.places(0), 0);
        dueFailure("a round's vial 8", x, runOnVial(x, 8), 4, 104);
        dueFailure("a round's vial 9", x, runOnVial(x, 9), 4, 104);
        dueFailure("a round's vial that is not there", x, runOnVial(x, 7), 5, 105);
        DUE.dueRow("nothing but the valve", Due.tolds(x), 1, 1, 0, 0, 0, 0, 0, 2);
        DUE.due("none such", x.why(2), NONE);
    }

    private static int runOnVial(BenchRuns x, int vial) {
        x.batch(0, 0);
        Due.round(x, 0, vial, 0, 1);
        return x.run(0, 0, false);
    }
}
