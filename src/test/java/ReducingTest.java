/** Promises 27 to 32: the graph is reduced to regions as long as it goes. */
public final class ReducingTest {
    public static void main(String[] args) {
        is("", "", "", 0, false);
        is("P", "", "0", 1, true);
        rounds();
        rows();
        singles();
        doubles();
        stuck();
        renumbering();
        notReached();
        wrongNumbers();
        Check.finish();
    }

    private static void is(String code, String steps, String ends, int left, boolean neat) {
        OrielChart x = Check.chart(code);
        Check.same(code + ": steps", Check.steps(x), steps);
        Check.same(code + ": endsIn", Check.row(x.blocks(), x::endsIn), ends);
        Check.same(code + ": left()", x.left(), left);
        Check.same(code + ": isNeat()", x.isNeat(), neat);
    }

    private static void rounds() {
        is("G0", "O0", "0", 1, true);
        is("I0", "O0", "0", 1, true);
        // An edge from 1 to itself is another one to 1, so ROUND of 1 comes ahead of ROW of 0.
        is("P P I1 S", "O1 R0 R0", "0 0 0", 1, true);
    }

    private static void rows() {
        is("I1 S", "R0", "0 0", 1, true);
        is("G1 I2 S", "R0 R0", "0 0 0", 1, true);
        // The edge back becomes one from the node to itself.
        is("P G2 I1 S", "R1 O1 R0 R0", "0 0 0 0", 1, true);
    }

    private static void singles() {
        is("I2 P S", "S0 R0", "0 0 0", 1, true);
        is("I2 P", "S0", "0 0", 1, true);
        // The one between comes second.
        is("I2 S G1", "S0 R0", "0 0 0", 1, true);
        // SINGLE comes ahead of what DOUBLE could be, and goes on step by step.
        is("I3 I3 P S", "S1 S0 R0", "0 0 0 0", 1, true);
    }

    private static void doubles() {
        is("I3 P G4 P S", "D0 R0", "0 0 0 0", 1, true);
        is("I2 S S", "D0", "0 0 0", 1, true);
        is("I2 G1 S", "O1", "0 1 2", 3, false);
    }

    private static void stuck() {
        // Both a way back to the NODE with the BLOCK 0 and one on.
        is("I3 P G0 S", "", "0 1 2", 3, false);
        is("P I4 P G1 S", "", "0 1 2 3", 4, false);
        is("I2 G2 I1 S", "", "0 1 2 3", 4, false);
    }

    private static void renumbering() {
        // 5 takes 4 in: the step tells 5, the node then has the number 4.
        is("I2 G2 I5 G1 S G4", "R5", "0 1 2 3 4 4", 5, false);
    }

    private static void notReached() {
        is("S P", "", "0 -1", 1, true);
        is("G2 G2 S", "R0", "0 -1 0", 1, true);
    }

    private static void wrongNumbers() {
        OrielChart x = Check.chart("I2 P S");
        Check.noPlace("ruleOf(-1)", () -> x.ruleOf(-1));
        Check.noPlace("ruleOf(2)", () -> x.ruleOf(2));
        Check.noPlace("nodeOf(-1)", () -> x.nodeOf(-1));
        Check.noPlace("nodeOf(2)", () -> x.nodeOf(2));
        Check.noPlace("endsIn(-1)", () -> x.endsIn(-1));
        Check.noPlace("endsIn(3)", () -> x.endsIn(3));
        x.setTarget(0, 0);
        Check.same("the steps follow the code", Check.steps(x), "O0 R0");
    }
}
