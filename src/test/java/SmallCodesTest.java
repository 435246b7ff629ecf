/** Compares OrielChart with the Model on all codes of at most four instructions. */
public final class SmallCodesTest {
    private SmallCodesTest() {}

    /** Another number than 4 can be told, when there is more time. */
    public static void main(String[] args) {
        int most = args.length > 0 ? Integer.parseInt(args[0]) : 4;
        for (int size = 0; size <= most; size++) {
            compareAll(new int[size], 0, size);
        }
        Check.finish();
    }

    /** An instruction is told by one number: 0 PLAIN, 1 STOP, then IF and GO to each target. */
    private static void compareAll(int[] told, int filled, int size) {
        if (filled == size) {
            compare(told);
            return;
        }
        for (int k = 0; k < 2 + 2 * (size + 1) && Check.wrongSoFar() == 0; k++) {
            told[filled] = k;
            compareAll(told, filled + 1, size);
        }
    }

    private static void compare(int[] told) {
        int[][] code = new int[told.length][];
        OrielChart x = new OrielChart();
        for (int i = 0; i < told.length; i++) {
            int kind = told[i] < 2 ? told[i] * 3 : 1 + told[i] % 2;
            code[i] = new int[] {kind, told[i] < 2 ? 0 : told[i] / 2 - 1};
            x.insert(i, kind, 0);
        }
        // The targets are told in the end, since insert() would move them.
        for (int i = 0; i < told.length; i++) {
            if (told[i] >= 2) {
                x.setTarget(i, code[i][1]);
            }
        }
        Model m = new Model(code);
        Check.isAbout(Check.code(x));
        Check.same("digest()", x.digest(), m.digest());
        for (int b = 0; b < x.blocks(); b++) {
            for (int o = 0; o < x.blocks(); o++) {
                Check.same("dominates", x.dominates(b, o), m.dominates(b, o));
                Check.same("comesBehind", x.comesBehind(b, o), m.comesBehind(b, o));
            }
        }
        Check.same("meanLength()", x.meanLength(), m.meanLength());
        Check.same("wouldCross(2)", x.wouldCross(2), m.wouldCross(2));
        Check.same("sweep(1)", x.sweep(1), m.sweep(1));
        Check.same("sweep(2)", x.sweep(2), m.sweep(2));
        Check.same("digest() then", x.digest(), m.digest());
        for (int e = 0; e < x.edges(); e++) {
            for (int k = 0; k < x.bends(e); k++) {
                Check.same("bendAt", x.bendAt(e, k), m.bendAt(e, k));
            }
        }
    }
}
