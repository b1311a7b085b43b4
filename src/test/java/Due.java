/** Counts the answers of one test that are not the ones that are due, and prints each of them. */
final class Due {
    private int asked = 0;
    private int wrong = 0;
    private String sentence = "";
    private int sentences = 0;
    private int askedBefore = 0;

    /** What is asked from here on belongs to this sentence of the document, and is printed with it. */
    void sentence(String quoted) {
        closeSentence();
        sentence = "\"" + quoted + "\" ";
        sentences++;
        askedBefore = asked;
    }

    /** As above, of one case among several that the sentence names. */
    void sentence(String quoted, String which) {
        sentence(quoted);
        sentence += "(" + which + ") ";
    }

    /** A sentence that nothing is asked of would look as if it held. */
    private void closeSentence() {
        if (sentences > 0 && asked == askedBefore) {
            wrong++;
            System.out.println(sentence + "was not asked for");
        }
    }

    void due(String call, int got, int want) {
        asked++;
        if (got != want) {
            wrong++;
            System.out.println(sentence + call + " answered " + got + ", due is " + want);
        }
    }

    void dueRow(String calls, int[] got, int... want) {
        due(calls + ": length", got.length, want.length);
        for (int i = 0; i < Math.min(got.length, want.length); i++) {
            due(calls + " [" + i + "]", got[i], want[i]);
        }
    }

    void end() {
        closeSentence();
        String of = sentences == 0 ? "" : " on " + sentences + " sentences";
        System.out.println(asked + " answers" + of + ", " + wrong + " not as due");
        if (wrong != 0 || asked == 0) {
            System.exit(1);
        }
    }

    /** The chain of the failure by which the latest run failed, outermost first. */
    static int[] whys(BenchRuns x) {
        int length = 0;
        while (length < 10 && x.why(length) != BenchRuns.NONE) {
            length++;
        }
        int[] row = new int[length];
        for (int k = 0; k < length; k++) {
            row[k] = x.why(k);
        }
        return row;
    }

    static int[] noteds(BenchRuns x) {
        int[] row = new int[x.told(6)];
        for (int k = 0; k < row.length; k++) {
            row[k] = x.noted(k);
        }
        return row;
    }

    static int[] traces(BenchRuns x) {
        int[] row = new int[Math.min(400, x.told(7))];
        for (int k = 0; k < row.length; k++) {
            row[k] = x.trace(k);
        }
        return row;
    }

    static int[] tolds(BenchRuns x) {
        int[] row = new int[8];
        for (int what = 0; what < row.length; what++) {
            row[what] = x.told(what);
        }
        return row;
    }

    /** A round more of a batch, with steps given as pairs of kind and n. */
    static void round(BenchRuns x, int batch, int vial, int... steps) {
        mustHold(x.round(batch, vial) >= 0);
        for (int i = 0; i < steps.length; i += 2) {
            mustHold(x.step(batch, steps[i], steps[i + 1]) >= 0);
        }
    }

    private static void mustHold(boolean taken) {
        if (!taken) {
            throw new IllegalStateException("the test's own round was not taken");
        }
    }
}
