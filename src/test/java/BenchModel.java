import java.util.ArrayList;
import java.util.List;

/**
 * The document once more, in another form than the class: what is left early is left by exceptions
 * that are thrown here, and what has to be shut is shut by finally. Only for calls within bounds
 * that the class takes; refusals are for the other tests.
 */
final class BenchModel {
    final Integer[] vials = {0, 0, 0, 0, null, null, null, null};
    final List<List<Round>> batches = List.of(
        new ArrayList<>(), new ArrayList<>(), new ArrayList<>(), new ArrayList<>());
    final int[] modes = new int[4];
    final Tool[] tools = new Tool[6];
    final int[] laid = new int[4];
    Integer rack;
    Tool[] box;
    int boxSort;
    int[][] grid;
    final List<Integer> trace = new ArrayList<>();
    final List<Integer> noted = new ArrayList<>();
    Failure failure;

    static final class Round {
        final int vial;
        final List<int[]> steps = new ArrayList<>();

        Round(int vial) {
            this.vial = vial;
        }
    }

    static final class Tool {
        final int number;
        final int sort;
        int uses;
        int grip;

        Tool(int number, int sort) {
            this.number = number;
            this.sort = sort;
        }
    }

    private static class Left extends RuntimeException {
        private static final long serialVersionUID = 1L;
    }

    private static final class Skipped extends Left {
        private static final long serialVersionUID = 1L;
    }

    private static final class Broken extends Left {
        private static final long serialVersionUID = 1L;
    }

    private static final class Worn extends Left {
        private static final long serialVersionUID = 1L;
    }

    private static final class Stopped extends Left {
        private static final long serialVersionUID = 1L;
        final int n;

        Stopped(int n) {
            this.n = n;
        }
    }

    static final class Failure extends Left {
        private static final long serialVersionUID = 1L;
        final int number;
        final Failure behind;

        Failure(int number, Failure behind) {
            this.number = number;
            this.behind = behind;
        }

        static Failure of(int number) {
            return new Failure(number, number >= 3 && number <= 8 ? new Failure(100 + number, null) : null);
        }
    }

    int run(int first, int last, boolean wrapped) {
        trace.clear();
        noted.clear();
        failure = null;
        int batch = first;
        try {
            for (; batch <= last; batch++) {
                doBatch(batch);
            }
            return last - first + 1;
        } catch (Stopped stopped) {
            return 100 + stopped.n;
        } catch (Worn worn) {
            return BenchRuns.TIRED;
        } catch (Failure came) {
            failure = wrapped ? new Failure(30 + batch, came) : came;
            return BenchRuns.FAILED;
        }
    }

    private void doBatch(int batch) {
        trace.add(1);
        try {
            int number = 0;
            for (Round round : batches.get(batch)) {
                doRoundIn(modes[batch], number++, round);
            }
        } catch (Broken broken) {
            return;
        } finally {
            trace.add(2);
        }
    }

    private void doRoundIn(int mode, int number, Round round) {
        try {
            doRound(round);
        } catch (Skipped skipped) {
            return;
        } catch (Failure came) {
            if (mode == 0) {
                throw came;
            }
            if (mode == 2) {
                throw new Failure(20 + number, came);
            }
            noted.add(came.number);
        }
    }

    private void doRound(Round round) {
        dropsOf(round.vial);
        trace.add(3);
        try {
            int agains = 0;
            while (!allStepsDone(round, agains)) {
                agains++;
            }
        } finally {
            trace.add(4);
        }
    }

    private boolean allStepsDone(Round round, int agains) {
        for (int[] step : round.steps) {
            if (trace.stream().filter(event -> event == 5).count() == 200) {
                throw new Worn();
            }
            trace.add(5);
            try {
                if (step[0] == 9 && agains < step[1]) {
                    return false;
                }
                doStep(step[0], step[1], round.vial);
            } finally {
                trace.add(6);
            }
        }
        return true;
    }

    private void doStep(int kind, int n, int vial) {
        switch (kind) {
            case 0 -> more(vial, n);
            case 1 -> {
                failIf(dropsOf(vial) < n, 2);
                vials[vial] -= n;
            }
            case 2 -> {
                failIf(n == 0, 3);
                vials[vial] = vials[vial] / n;
            }
            case 3 -> pour(vial, n);
            case 4 -> throw new Skipped();
            case 5 -> throw new Broken();
            case 6 -> throw new Stopped(n);
            case 7 -> throw Failure.of(10 + n);
            case 8 -> {
                if (vials[vial] < n) {
                    throw new Skipped();
                }
            }
            case 10 -> present(toolAt(n)).uses++;
            case 11 -> {
                Tool tool = toolAt(n);
                failIf(tool != null && tool.sort == 1, 7);
                present(tool).grip += vials[vial];
            }
            case 12 -> {
                failIf(n < 10, 6);
                rack = n - 10;
            }
            case 13 -> {
                failIf(n < 6, 6);
                box = new Tool[n / 3 - 2];
                boxSort = n % 3;
            }
            case 14 -> {
                failIf(n < 6 || n % 6 == 0, 6);
                grid = new int[n / 6 - 1][n % 6 - 1];
            }
            case 15 -> put(toolAt(n % 10), n / 10);
            case 16 -> more(vial, n == 0 ? present(rack) : n == 1 ? present(box).length : present(grid).length);
            case 17 -> {
                failIf(laid[n] == 0, 5);
                throw new Failure(laid[n], null);
            }
            default -> { }
        }
    }

    private void more(int vial, int n) {
        failIf(dropsOf(vial) + n > 1000, 1);
        vials[vial] += n;
    }

    private void pour(int from, int to) {
        int there = dropsOf(to);
        if (from != to) {
            failIf(there + vials[from] > 1000, 1);
            vials[to] = there + vials[from];
            vials[from] = 0;
        }
    }

    private void put(Tool tool, int place) {
        failIf(present(box).length <= place, 4);
        failIf(tool != null && boxSort != 2 && boxSort != tool.sort, 8);
        box[place] = tool;
    }

    private int dropsOf(int vial) {
        failIf(vial > 7, 4);
        return present(vials[vial]);
    }

    private Tool toolAt(int n) {
        failIf(n > 5, 4);
        return tools[n];
    }

    private static <T> T present(T thing) {
        failIf(thing == null, 5);
        return thing;
    }

    private static void failIf(boolean so, int number) {
        if (so) {
            throw Failure.of(number);
        }
    }

    int[] whys() {
        List<Integer> numbers = new ArrayList<>();
        for (Failure at = failure; at != null; at = at.behind) {
            numbers.add(at.number);
        }
        return row(numbers);
    }

    int[] tolds() {
        int[] row = new int[8];
        trace.forEach(event -> row[event - 1]++);
        row[6] = noted.size();
        row[7] = trace.size();
        return row;
    }

    static int[] row(List<Integer> numbers) {
        return numbers.stream().mapToInt(number -> number).toArray();
    }
}
