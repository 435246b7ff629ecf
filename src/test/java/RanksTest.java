/** Promises 16 to 26: who is ahead of whom, loops, and which variables live where. */
public final class RanksTest {
    private static final String DIAMOND = "I3 P G4 P S";
    /** A loop of 1, 2 and 3, in it one of 2 alone; 4 is not reached. */
    private static final String NESTED = "P I6 P I2 G1 P S";
    /** A circle of 1 and 2, into which one comes at both. */
    private static final String WILD = "I2 G2 I1 S";

    public static void main(String[] args) {
        dominance();
        behind();
        loops();
        tameness();
        lives();
        livesInLoops();
        windings();
        wrongNumbers();
        Check.finish();
    }

    private static String table(OrielChart x, boolean behind) {
        StringBuilder text = new StringBuilder();
        for (int one = 0; one < x.blocks(); one++) {
            text.append(one == 0 ? "" : " ");
            for (int other = 0; other < x.blocks(); other++) {
                boolean so = behind ? x.comesBehind(one, other) : x.dominates(one, other);
                text.append(so ? '1' : '0');
            }
        }
        return text.toString();
    }

    private static void dominance() {
        OrielChart x = Check.chart(DIAMOND);
        Check.same("diamond: dominates", table(x, false), "1111 0100 0010 0001");
        Check.same("diamond: parentOf", Check.row(4, x::parentOf), "-1 0 0 0");
        OrielChart y = Check.chart(NESTED);
        Check.same("nested: dominates", table(y, false),
                "111101 011101 001100 000100 000000 000001");
        Check.same("nested: parentOf", Check.row(6, y::parentOf), "-1 0 1 2 -1 1");
        OrielChart z = Check.chart(WILD);
        Check.same("wild: parentOf", Check.row(4, z::parentOf), "-1 0 0 2");
        OrielChart back = Check.chart("G2 S I1 S");
        Check.same("parent with a greater number", back.parentOf(1), 2);
    }

    private static void behind() {
        OrielChart x = Check.chart(DIAMOND);
        Check.same("diamond: comesBehind", table(x, true), "1000 0100 0010 1111");
        OrielChart y = Check.chart("I2 G1 S");
        Check.same("no way from 1 to the EXIT", table(y, true), "100 000 101");
        OrielChart z = Check.chart("S S");
        Check.same("not reached", table(z, true), "10 00");
        OrielChart two = Check.chart("I2 S S");
        Check.same("two ways to the EXIT", table(two, true), "100 010 001");
    }

    private static void loops() {
        OrielChart x = Check.chart(NESTED);
        Check.same("nested: edges", Check.edges(x), "0>1 1>2 1>5 2>3 2>2 3>1 4>5 5>x");
        Check.same("nested: isBack", Check.row(8, e -> x.isBack(e) ? 1 : 0), "0 0 0 0 1 1 0 0");
        Check.same("nested: loops()", x.loops(), 2);
        Check.same("nested: loopSize", Check.row(6, x::loopSize), "0 3 1 0 0 0");
        Check.same("nested: depthOf", Check.row(6, x::depthOf), "0 1 2 1 0 0");

        OrielChart shared = Check.chart("I3 I0 G0 S");
        Check.same("two BACK EDGES, one loop", shared.loops(), 1);
        Check.same("two BACK EDGES: loopSize(0)", shared.loopSize(0), 3);
        Check.same("two BACK EDGES: depthOf", Check.row(4, shared::depthOf), "1 1 1 0");

        OrielChart away = Check.chart("S G1 S");
        Check.same("a loop that is not reached", away.loops(), 0);
        Check.same("its edge is not BACK", away.isBack(1), false);
        Check.same("its size", away.loopSize(1), 0);
        Check.same("its depth", away.depthOf(1), 0);

        OrielChart half = Check.chart("P I3 G1 G1");
        Check.same("half: edges", Check.edges(half), "0>1 1>2 1>3 2>1 3>1");
        Check.same("half: loopSize", Check.row(4, half::loopSize), "0 3 0 0");
    }

    private static void tameness() {
        Check.same("diamond: isTame()", Check.chart(DIAMOND).isTame(), true);
        Check.same("nested: isTame()", Check.chart(NESTED).isTame(), true);
        OrielChart x = Check.chart(WILD);
        Check.same("wild: isTame()", x.isTame(), false);
        Check.same("wild: loops()", x.loops(), 0);
        Check.same("wild: isBack", Check.row(x.edges(), e -> x.isBack(e) ? 1 : 0), "0 0 0 0 0 0");
        Check.same("wild, but not reached", Check.chart("S I3 G3 I2 S").isTame(), true);
        Check.same("one to itself", Check.chart("G0").isTame(), true);
    }

    private static void lives() {
        OrielChart x = Check.chart("P I3 P S");
        x.setUse(0, 0, 2);
        x.setUse(1, -1, 1);
        x.setUse(2, 2, 4);
        x.setUse(3, -1, 8);
        Check.same("liveIn", Check.row(3, x::liveIn), "14 12 8");
        Check.same("vain()", x.vain(), 1);
        x.setUse(3, 3, 12);
        Check.same("liveIn after setUse()", Check.row(3, x::liveIn), "14 12 12");
        Check.same("vain() after setUse()", x.vain(), 1);
        x.setTarget(1, 2);
        Check.same("liveIn after setTarget()", Check.row(x.blocks(), x::liveIn), "14 12");

        OrielChart away = Check.chart("S P");
        away.setUse(1, 3, 7);
        Check.same("not reached: liveIn(1)", away.liveIn(1), 0);
        Check.same("not reached: vain()", away.vain(), 0);

        OrielChart all = Check.chart("P P");
        all.setUse(0, 7, 127);
        all.setUse(1, -1, 255);
        Check.same("all variables but the one that is set", all.liveIn(0), 127);
        Check.same("it is used", all.vain(), 0);
    }

    private static void livesInLoops() {
        OrielChart x = Check.chart("P P I1 S");
        x.setUse(0, 0, 2);
        x.setUse(1, 1, 1);
        Check.same("loop: liveIn", Check.row(3, x::liveIn), "2 1 0");
        Check.same("loop: vain()", x.vain(), 1);
        x.setUse(2, -1, 2);
        Check.same("loop: liveIn then", Check.row(3, x::liveIn), "2 1 0");
        Check.same("loop: vain() then", x.vain(), 0);

        // 0 is used only at the beginning of the loop, so it lives all the way round.
        OrielChart y = Check.chart("P P I4 G1 S");
        y.setUse(1, -1, 1);
        Check.same("round: liveIn", Check.row(4, y::liveIn), "1 1 1 0");
        y.setUse(3, 0, 0);
        Check.same("round, set at its end: liveIn", Check.row(4, y::liveIn), "1 1 0 0");
        Check.same("round, set at its end: vain()", y.vain(), 0);
    }

    private static void windings() {
        Check.same("no code", new OrielChart().windings(), 0);
        Check.same("one block", Check.chart("P").windings(), 1);
        Check.same("diamond", Check.chart(DIAMOND).windings(), 2);
        Check.same("nested", Check.chart(NESTED).windings(), 3);
        Check.same("wild", Check.chart(WILD).windings(), 3);
        Check.same("no edge to the EXIT", Check.chart("G0").windings(), 1);
        Check.same("one EDGE for both ways", Check.chart("I1 S").windings(), 1);
    }

    private static void wrongNumbers() {
        OrielChart x = Check.chart(DIAMOND);
        for (int k : new int[] {-1, 4, Integer.MAX_VALUE, Integer.MIN_VALUE}) {
            Check.noPlace("dominates(" + k + ", 0)", () -> x.dominates(k, 0));
            Check.noPlace("dominates(0, " + k + ")", () -> x.dominates(0, k));
            Check.noPlace("parentOf(" + k + ")", () -> x.parentOf(k));
            Check.noPlace("comesBehind(" + k + ", 0)", () -> x.comesBehind(k, 0));
            Check.noPlace("comesBehind(0, " + k + ")", () -> x.comesBehind(0, k));
            Check.noPlace("loopSize(" + k + ")", () -> x.loopSize(k));
            Check.noPlace("depthOf(" + k + ")", () -> x.depthOf(k));
            Check.noPlace("liveIn(" + k + ")", () -> x.liveIn(k));
        }
        Check.noPlace("isBack(-1)", () -> x.isBack(-1));
        Check.noPlace("isBack(5)", () -> x.isBack(5));
    }
}
