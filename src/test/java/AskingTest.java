/** Promises 8 to 10, 16 and 17: what can be asked of tools, rack, box, grid and vials. */
public final class AskingTest {
    private static final int OUTSIDE = BenchRuns.OUTSIDE, STATE = BenchRuns.STATE, NONE = BenchRuns.NONE;
    private static final int LOW = Integer.MIN_VALUE, HIGH = Integer.MAX_VALUE;
    private static final Due DUE = new Due();

    public static void main(String[] args) {
        about();
        places();
        box();
        boxMadeAnew();
        drops();
        sum();
        DUE.end();
    }

    private static void about() {
        BenchRuns x = new BenchRuns();
        x.tool(0, 0);
        x.tool(1, 1);
        x.vial(0, 6);
        x.vial(1, 500);
        Due.round(x, 0, 0, 10, 0, 10, 0, 10, 1, 11, 0);
        Due.round(x, 0, 1, 11, 0);
        x.run(0, 0, false);
        x.run(0, 0, false);
        DUE.due("USES of the clamp", x.about(0, 0), 4);
        DUE.due("GRIP of the clamp", x.about(0, 1), 1012);
        DUE.due("sort of the clamp", x.about(0, 2), 0);
        DUE.due("USES of the brush", x.about(1, 0), 2);
        DUE.due("GRIP of the brush", x.about(1, 1), 0);
        DUE.due("sort of the brush", x.about(1, 2), 1);
        DUE.due("none in place", x.about(2, 0), STATE);
        DUE.due("none in place, wrong what", x.about(2, 3), OUTSIDE);
        int[][] wrong = {{-1, 0}, {6, 0}, {LOW, 0}, {HIGH, 0}, {0, -1}, {0, 3}, {0, LOW}, {0, HIGH}};
        for (int[] call : wrong) {
            DUE.due("about(" + call[0] + ", " + call[1] + ")", x.about(call[0], call[1]), OUTSIDE);
        }
    }

    private static void places() {
        int[] kinds = {12, 13, 14};
        int[] most = {40, 60, 35};
        for (int what = 0; what < 3; what++) {
            for (int n = 0; n <= most[what]; n++) {
                placesAfter(what, kinds[what], n);
            }
        }
        BenchRuns x = new BenchRuns();
        for (int wrong : new int[] {-1, 4, LOW, HIGH}) {
            DUE.due("places(" + wrong + ")", x.places(wrong), OUTSIDE);
        }
    }

    private static void placesAfter(int what, int kind, int n) {
        BenchRuns x = new BenchRuns();
        Due.round(x, 0, 0, kind, n);
        int size = what == 0 ? n - 10 : what == 1 ? n / 3 - 2 : n / 6 - 1;
        int row = what == 2 ? n % 6 - 1 : 0;
        boolean made = size >= 0 && row >= 0;
        String text = "kind " + kind + ", n " + n + ": ";
        DUE.due(text + "run", x.run(0, 0, false), made ? 1 : BenchRuns.FAILED);
        if (made) {
            DUE.dueRow(text + "why", Due.whys(x));
        } else {
            DUE.dueRow(text + "why", Due.whys(x), 6, 106);
        }
        for (int other = 0; other < 3; other++) {
            DUE.due(text + "places(" + other + ")", x.places(other), other == what && made ? size : NONE);
        }
        DUE.due(text + "places(3)", x.places(3), what == 2 && made && size > 0 ? row : NONE);
    }

    private static void box() {
        BenchRuns x = new BenchRuns();
        x.tool(4, 1);
        x.tool(3, 0);
        Due.round(x, 0, 0, 13, 60, 15, 4, 15, 94, 15, 13);
        x.run(0, 0, false);
        DUE.due("box(0)", x.box(0), NONE);
        DUE.due("a brush does not lie in a box for clamps", Due.whys(x)[0], 8);
        x.batch(0, 0);
        Due.round(x, 0, 0, 13, 59, 15, 4, 15, 94, 15, 13, 15, 3);
        x.run(0, 0, false);
        DUE.due("box(0) of any", x.box(0), 3);
        DUE.due("box(1) of any", x.box(1), 3);
        DUE.due("box(2) of any", x.box(2), NONE);
        DUE.due("box(9) of any", x.box(9), 4);
        for (int none : new int[] {-1, 16, 17, 18, 19, LOW, HIGH}) {
            DUE.due("box(" + none + ")", x.box(none), NONE);
        }
        x.tool(4, -1);
        x.tool(3, 1);
        DUE.due("box(9), its tool being away", x.box(9), 4);
        DUE.due("box(0), its tool being another", x.box(0), 3);
        x.batch(0, 0);
        Due.round(x, 0, 0, 15, 94);
        x.run(0, 0, false);
        DUE.due("box(9) emptied", x.box(9), NONE);
        DUE.due("box(1) as before", x.box(1), 3);
    }

    private static void boxMadeAnew() {
        BenchRuns x = new BenchRuns();
        x.tool(2, 0);
        Due.round(x, 0, 0, 13, 17, 15, 2, 15, 12, 15, 22);
        x.run(0, 0, false);
        DUE.due("box(2)", x.box(2), 2);
        x.batch(0, 0);
        Due.round(x, 0, 0, 13, 5);
        x.run(0, 0, false);
        DUE.due("box(2), no new box having come", x.box(2), 2);
        DUE.due("places(1), no new box having come", x.places(1), 3);
        x.batch(0, 0);
        Due.round(x, 0, 0, 13, 9);
        x.run(0, 0, false);
        DUE.due("box(0) of a smaller box", x.box(0), NONE);
        DUE.due("box(1) of a smaller box", x.box(1), NONE);
        x.batch(0, 0);
        Due.round(x, 0, 0, 13, 15);
        x.run(0, 0, false);
        DUE.due("box(1) of a larger box", x.box(1), NONE);
        DUE.due("box(2) of a larger box", x.box(2), NONE);
    }

    private static void drops() {
        BenchRuns x = new BenchRuns();
        x.vial(3, 8);
        x.vial(2, -1);
        x.vial(7, 1000);
        DUE.due("drops(3)", x.drops(3), 8);
        DUE.due("drops(2)", x.drops(2), NONE);
        DUE.due("drops(7)", x.drops(7), 1000);
        for (int wrong : new int[] {-1, 8, 9, LOW, HIGH}) {
            DUE.due("drops(" + wrong + ")", x.drops(wrong), OUTSIDE);
        }
    }

    private static void sum() {
        BenchRuns x = new BenchRuns();
        x.vial(0, -1);
        DUE.due("sum() of empty ones", x.sum(), 0);
        for (int v = 0; v < 8; v++) {
            x.vial(v, 1000);
        }
        DUE.due("sum() of full ones", x.sum(), 8000);
        x.vial(4, -1);
        x.vial(5, 1);
        DUE.due("sum() without one", x.sum(), 6001);
    }
}
