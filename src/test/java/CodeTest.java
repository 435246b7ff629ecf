/** Promises 1 to 8: a new object, and code that is written and changed. */
public final class CodeTest {
    public static void main(String[] args) {
        newObject();
        insertMovesTargets();
        insertLooksAtWhatItIsTold();
        insertBringsNoVariables();
        fullCode();
        removeMovesTargets();
        targets();
        uses();
        Check.finish();
    }

    private static void newObject() {
        OrielChart x = new OrielChart();
        Check.same("new instructions()", x.instructions(), 0);
        Check.same("new blocks()", x.blocks(), 0);
        Check.same("new edges()", x.edges(), 0);
        Check.same("new loops()", x.loops(), 0);
        Check.same("new isTame()", x.isTame(), true);
        Check.same("new vain()", x.vain(), 0);
        Check.same("new windings()", x.windings(), 0);
        Check.same("new steps()", x.steps(), 0);
        Check.same("new left()", x.left(), 0);
        Check.same("new isNeat()", x.isNeat(), false);
        Check.same("new layers()", x.layers(), 0);
        Check.same("new crossings()", x.crossings(), 0);
        Check.same("new swept()", x.swept(), 0);
        Check.same("new meanLength()", x.meanLength(), 0.0);
        Check.noPlace("new remove(0)", () -> x.remove(0));
        Check.noPlace("new setTarget(0, 0)", () -> x.setTarget(0, 0));
        Check.noPlace("new setUse(0, 0, 0)", () -> x.setUse(0, 0, 0));
        Check.noPlace("new kindOf(0)", () -> x.kindOf(0));
        Check.noPlace("new blockOf(0)", () -> x.blockOf(0));
        Check.noPlace("new firstOf(0)", () -> x.firstOf(0));
        Check.noPlace("new edgeFrom(0)", () -> x.edgeFrom(0));
        Check.noPlace("new ruleOf(0)", () -> x.ruleOf(0));
        Check.noPlace("new points(0)", () -> x.points(0));
    }

    private static void insertMovesTargets() {
        OrielChart x = Check.chart("I3 P G0 S");
        Check.same("insert(2, 0, 0)", x.insert(2, 0, 0), 5);
        Check.same("a target behind the place moves", Check.code(x), "I4 P P G0 S");
        x.insert(4, 3, 0);
        Check.same("a target at the place stays", Check.code(x), "I4 P P G0 S S");
        x.insert(0, 0, 0);
        Check.same("a target 0 never moves", Check.code(x), "P I5 P P G0 S S");

        x = Check.chart("I40 G39 P");
        x.insert(3, 0, 0);
        Check.same("no target becomes 41", Check.code(x), "I40 G40 P P");
        x.insert(0, 2, 7);
        Check.same("its own target is just as told", Check.code(x), "G7 I40 G40 P P");
        x.insert(0, 1, 0);
        Check.same("later it moves like the others", Check.code(x), "I0 G8 I40 G40 P P");
    }

    private static void insertLooksAtWhatItIsTold() {
        OrielChart x = Check.chart("I3 P G0 S");
        x.sweep(3);
        Check.noArgument("insert(-1, 0, 0)", () -> x.insert(-1, 0, 0));
        Check.noArgument("insert(5, 0, 0)", () -> x.insert(5, 0, 0));
        Check.noArgument("insert(0, -1, 0)", () -> x.insert(0, -1, 0));
        Check.noArgument("insert(0, 4, 0)", () -> x.insert(0, 4, 0));
        Check.noArgument("insert(0, 1, -1)", () -> x.insert(0, 1, -1));
        Check.noArgument("insert(0, 1, 41)", () -> x.insert(0, 1, 41));
        Check.noArgument("insert(0, 2, -1)", () -> x.insert(0, 2, -1));
        Check.noArgument("insert(0, 2, 41)", () -> x.insert(0, 2, 41));
        Check.noArgument("insert of extremes", () -> x.insert(Integer.MAX_VALUE, 0, 0));
        Check.same("what was refused changes nothing", Check.code(x), "I3 P G0 S");
        Check.same("what was refused keeps the drawing", x.swept(), 3);

        x.insert(4, 0, -7);
        x.insert(5, 3, Integer.MAX_VALUE);
        Check.same("PLAIN has the target 0", x.targetOf(4), 0);
        Check.same("STOP has the target 0", x.targetOf(5), 0);
        x.insert(6, 1, 40);
        x.insert(7, 2, 0);
        Check.same("the ends of the targets", Check.code(x), "I3 P G0 S P S I40 G0");
    }

    private static void insertBringsNoVariables() {
        OrielChart x = Check.chart("P P S");
        x.setUse(0, 3, 5);
        x.setUse(1, 4, 16);
        x.insert(1, 0, 0);
        Check.same("what is used ahead stays", x.setUse(0, 3, 5), 5);
        Check.same("a new one uses nothing", x.setUse(1, -1, 0), 0);
        Check.same("what is used behind moves along", x.setUse(2, 4, 16), 16);
        Check.same("what is set moves along", x.vain(), 2);
        x.setUse(1, 0, 0);
        x.remove(1);
        x.insert(1, 0, 0);
        Check.same("a new one sets nothing", x.vain(), 2);
    }

    private static void fullCode() {
        OrielChart x = new OrielChart();
        for (int i = 0; i < 40; i++) {
            Check.same("insert number " + i, x.insert(i / 2, 0, 0), i + 1);
        }
        Check.noState("insert(0, 0, 0) of 41", () -> x.insert(0, 0, 0));
        Check.noState("insert(40, 1, 40) of 41", () -> x.insert(40, 1, 40));
        Check.noArgument("insert(41, 0, 0) of 41", () -> x.insert(41, 0, 0));
        Check.noArgument("insert(0, 4, 0) of 41", () -> x.insert(0, 4, 0));
        Check.noArgument("insert(0, 2, 41) of 41", () -> x.insert(0, 2, 41));
        Check.same("instructions() when full", x.instructions(), 40);
        Check.same("remove(39) when full", x.remove(39), 39);
        Check.same("insert(39, 2, 40) then", x.insert(39, 2, 40), 40);
    }

    private static void removeMovesTargets() {
        OrielChart x = Check.chart("I3 P G0 S");
        Check.same("remove(1)", x.remove(1), 3);
        Check.same("a target behind moves", Check.code(x), "I2 G0 S");
        x = Check.chart("I1 P S");
        x.remove(1);
        Check.same("a target there stays", Check.code(x), "I1 S");
        x = Check.chart("G40 G1 P");
        x.remove(0);
        Check.same("the target 1 moves with 0", Check.code(x), "G0 P");
        x = Check.chart("P G40 P");
        x.remove(2);
        Check.same("the target 40 moves, too", Check.code(x), "P G39");

        OrielChart y = Check.chart("P P P");
        y.setUse(0, 0, 1);
        y.setUse(1, 1, 2);
        y.setUse(2, 2, 4);
        y.sweep(2);
        Check.noPlace("remove(-1)", () -> y.remove(-1));
        Check.noPlace("remove(3)", () -> y.remove(3));
        Check.same("what was refused changes nothing", y.instructions(), 3);
        Check.same("what was refused keeps the drawing", y.swept(), 2);
        y.remove(1);
        Check.same("what is used ahead stays", y.setUse(0, 0, 1), 1);
        Check.same("what is used behind moves along", y.setUse(1, 2, 4), 4);
        y.remove(1);
        Check.same("remove of the last one", y.remove(0), 0);
        Check.noPlace("remove(0) of none", () -> y.remove(0));
    }

    private static void targets() {
        OrielChart x = Check.chart("P I3 G0 S");
        Check.same("setTarget of an IF", x.setTarget(1, 40), 3);
        Check.same("setTarget of a GO", x.setTarget(2, 1), 0);
        Check.same("setTarget again", x.setTarget(1, 0), 40);
        Check.same("setTarget then", Check.code(x), "P I0 G1 S");
        Check.same("the graph follows", Check.edges(x), "0>1 1>2 1>0 2>1 3>x");
        x.sweep(1);
        Check.noPlace("setTarget(-1, 0)", () -> x.setTarget(-1, 0));
        Check.noPlace("setTarget(4, 41)", () -> x.setTarget(4, 41));
        Check.noArgument("setTarget of a PLAIN", () -> x.setTarget(0, 0));
        Check.noArgument("setTarget of a STOP", () -> x.setTarget(3, 0));
        Check.noArgument("setTarget(1, -1)", () -> x.setTarget(1, -1));
        Check.noArgument("setTarget(1, 41)", () -> x.setTarget(1, 41));
        Check.same("what was refused changes nothing", Check.code(x), "P I0 G1 S");
        Check.same("what was refused keeps the drawing", x.swept(), 1);
        Check.same("kindOf", Check.row(4, x::kindOf), "0 1 2 3");
        Check.same("targetOf", Check.row(4, x::targetOf), "0 0 1 0");
        Check.noPlace("kindOf(-1)", () -> x.kindOf(-1));
        Check.noPlace("kindOf(4)", () -> x.kindOf(4));
        Check.noPlace("targetOf(-1)", () -> x.targetOf(-1));
        Check.noPlace("targetOf(4)", () -> x.targetOf(4));
    }

    private static void uses() {
        OrielChart x = Check.chart("P S");
        Check.same("setUse of a new one", x.setUse(0, 7, 255), 0);
        Check.same("setUse again", x.setUse(0, -1, 0), 255);
        Check.same("setUse of a STOP", x.setUse(1, 0, 6), 0);
        Check.noPlace("setUse(-1, 0, 0)", () -> x.setUse(-1, 0, 0));
        Check.noPlace("setUse(2, 8, 256)", () -> x.setUse(2, 8, 256));
        Check.noArgument("setUse(1, -2, 0)", () -> x.setUse(1, -2, 0));
        Check.noArgument("setUse(1, 8, 0)", () -> x.setUse(1, 8, 0));
        Check.noArgument("setUse(1, 0, -1)", () -> x.setUse(1, 0, -1));
        Check.noArgument("setUse(1, 0, 256)", () -> x.setUse(1, 0, 256));
        Check.same("what was refused changes nothing", x.setUse(1, 0, 6), 6);
    }
}
