/** Many runs of calls, the same ones each time, on the class and on the model side by side. */
public final class ModelTest {
    private static final int NONE = BenchRuns.NONE;
    private static final int OBJECTS = 6000;
    private static final int[] MOST = {200, 200, 200, 9, 200, 200, 200, 9, 200, 200, 9, 9, 40, 60, 35, 99, 2, 3};
    private static final Due DUE = new Due();

    private final BenchRuns x = new BenchRuns();
    private final BenchModel model = new BenchModel();
    private final String name;
    private long seed;

    private ModelTest(int number) {
        name = "object " + number + ": ";
        seed = number * 7919L + 17;
    }

    public static void main(String[] args) {
        for (int number = 0; number < OBJECTS; number++) {
            ModelTest test = new ModelTest(number);
            test.layOut(number % 3);
            test.runAndCompare();
            test.changeVials();
            test.runAndCompare();
            test.compareTrace();
        }
        DUE.end();
    }

    private int upTo(int most) {
        seed = seed * 6364136223846793005L + 1442695040888963407L;
        return (int) ((seed >>> 33) % (most + 1));
    }

    private void layOut(int gentleness) {
        for (int t = 0; t < 6; t++) {
            int sort = upTo(2) - 1;
            x.tool(t, sort);
            model.tools[t] = sort < 0 ? null : new BenchModel.Tool(t, sort);
        }
        for (int k = 0; k < 4; k++) {
            int number = upTo(1) * upTo(99);
            x.lay(k, number);
            model.laid[k] = number;
        }
        changeVials();
        for (int b = 0; b < 4; b++) {
            int mode = upTo(5) % 4 % 3;
            x.batch(b, mode);
            model.modes[b] = mode;
            int rounds = upTo(3) + upTo(3);
            for (int r = 0; r < rounds; r++) {
                addRound(b, gentleness);
            }
        }
    }

    private void changeVials() {
        for (int v = 0; v < 8; v++) {
            int drops = upTo(4) == 0 ? -1 : upTo(1) == 0 ? upTo(20) : upTo(1000);
            x.vial(v, drops);
            model.vials[v] = drops < 0 ? null : Integer.valueOf(drops);
        }
    }

    private void addRound(int batch, int gentleness) {
        int vial = upTo(3) == 0 ? upTo(9) : upTo(7);
        BenchModel.Round round = new BenchModel.Round(vial);
        x.round(batch, vial);
        model.batches.get(batch).add(round);
        int steps = upTo(8);
        for (int s = 0; s < steps; s++) {
            int kind = upTo(17);
            if ((kind >= 5 && kind <= 7 || kind == 17) && upTo(gentleness + 1) != 0) {
                kind = 9 + upTo(7);
            }
            int n = kind == 9 ? upTo(6) == 0 ? upTo(200) : upTo(3) : upTo(MOST[kind]);
            x.step(batch, kind, n);
            round.steps.add(new int[] {kind, n});
        }
    }

    private void runAndCompare() {
        int first = upTo(1) * upTo(3);
        int last = first + upTo(3 - first);
        boolean wrapped = upTo(1) == 0;
        String call = name + "run(" + first + ", " + last + ", " + wrapped + ")";
        DUE.due(call, x.run(first, last, wrapped), model.run(first, last, wrapped));
        DUE.dueRow(call + " told", Due.tolds(x), model.tolds());
        DUE.dueRow(call + " why", Due.whys(x), model.whys());
        DUE.dueRow(call + " noted", Due.noteds(x), BenchModel.row(model.noted));
        compareVialsAndTools(call);
        compareStock(call);
    }

    private void compareVialsAndTools(String call) {
        int sum = 0;
        for (int v = 0; v < 8; v++) {
            Integer drops = model.vials[v];
            sum += drops == null ? 0 : drops;
            DUE.due(call + " drops(" + v + ")", x.drops(v), drops == null ? NONE : drops);
        }
        DUE.due(call + " sum()", x.sum(), sum);
        for (int t = 0; t < 6; t++) {
            BenchModel.Tool tool = model.tools[t];
            DUE.due(call + " about(" + t + ", 0)", x.about(t, 0), tool == null ? BenchRuns.STATE : tool.uses);
            DUE.due(call + " about(" + t + ", 1)", x.about(t, 1), tool == null ? BenchRuns.STATE : tool.grip);
        }
    }

    /** A part of the trace only: an object is used for at most 512 calls. */
    private void compareTrace() {
        int from = upTo(1) * upTo(400);
        for (int k = from; k < from + 80; k++) {
            int want = k < 400 && k < model.trace.size() ? model.trace.get(k) : NONE;
            DUE.due(name + "trace(" + k + ")", x.trace(k), want);
        }
    }

    private void compareStock(String call) {
        int places = model.box == null ? 0 : model.box.length;
        DUE.due(call + " places(0)", x.places(0), model.rack == null ? NONE : model.rack);
        DUE.due(call + " places(1)", x.places(1), model.box == null ? NONE : places);
        DUE.due(call + " places(2)", x.places(2), model.grid == null ? NONE : model.grid.length);
        boolean rows = model.grid != null && model.grid.length > 0;
        DUE.due(call + " places(3)", x.places(3), rows ? model.grid[0].length : NONE);
        for (int i = 0; i < 18; i++) {
            BenchModel.Tool tool = i < places ? model.box[i] : null;
            DUE.due(call + " box(" + i + ")", x.box(i), tool == null ? NONE : tool.number);
        }
    }
}
