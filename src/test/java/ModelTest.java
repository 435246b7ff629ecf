import java.util.Random;

/** Compares OrielChart with the Model, call by call, over runs that are the same each time. */
public final class ModelTest {
    private static final int RUNS = 200;
    private static final int CALLS = 60;

    private final Random random;
    private final String name;
    /** Full code takes the Model long, so few runs begin with it. */
    private final boolean full;
    private final OrielChart x = new OrielChart();
    private final Model m = new Model();

    private ModelTest(int run) {
        random = new Random(run);
        name = "run " + run + ": ";
        full = run % 40 == 0;
    }

    public static void main(String[] args) {
        for (int run = 0; run < RUNS && Check.wrongSoFar() == 0; run++) {
            new ModelTest(run).run();
        }
        Check.finish();
    }

    private void run() {
        fill(random.nextInt(41), full ? 4 : random.nextInt(4));
        compareAll();
        for (int call = 0; call < CALLS && Check.wrongSoFar() == 0; call++) {
            change();
            if (random.nextInt(8) == 0) {
                compareAll();
            }
        }
        compareAll();
    }

    /**
     * Writes code at first: of mixed kinds, of many IFs, of many jumps ahead, of short ones, or full
     * and of IFs alone, so that there are as many layers as can be.
     */
    private void fill(int some, int style) {
        int size = style == 4 ? 40 : some;
        for (int i = 0; i < size; i++) {
            int kind = kind(style);
            Check.same(name + "insert", x.insert(i, kind, 0), m.insert(i, kind, 0));
        }
        for (int i = 0; i < size; i++) {
            if (m.jumps(i)) {
                setTarget(i, target(i, size, style));
            }
        }
        for (int i = 0; i < size; i++) {
            if (random.nextInt(2) == 0) {
                setUse(i);
            }
        }
    }

    private int kind(int style) {
        int r = random.nextInt(20);
        if (style == 4) {
            return 1;
        }
        if (style == 0) {
            return r % 4;
        }
        return r < 5 ? 0 : r < 17 ? 1 : r < 19 ? 2 : 3;
    }

    private int target(int from, int size, int style) {
        if (style == 2 && random.nextInt(5) > 0) {
            return Math.min(40, from + 1 + random.nextInt(size - from));
        }
        if (style == 3) {
            return Math.max(0, Math.min(40, from - 3 + random.nextInt(9)));
        }
        return random.nextInt(Math.min(41, size + 2));
    }

    private void setTarget(int instruction, int target) {
        Check.same(name + "setTarget(" + instruction + ", " + target + ")",
                x.setTarget(instruction, target), m.setTarget(instruction, target));
    }

    private void setUse(int instruction) {
        int sets = random.nextInt(9) - 1;
        int uses = random.nextInt(256) & random.nextInt(256) & random.nextInt(256);
        Check.same(name + "setUse(" + instruction + ", " + sets + ", " + uses + ")",
                x.setUse(instruction, sets, uses), m.setUse(instruction, sets, uses));
    }

    private void change() {
        int size = m.code.size();
        int which = random.nextInt(7);
        if (which == 0 && size < 40) {
            int place = random.nextInt(size + 1);
            int kind = random.nextInt(4);
            int target = random.nextInt(41);
            Check.same(name + "insert(" + place + ", " + kind + ", " + target + ")",
                    x.insert(place, kind, target), m.insert(place, kind, target));
        } else if (which == 1 && size > 0) {
            int instruction = random.nextInt(size);
            Check.same(name + "remove(" + instruction + ")",
                    x.remove(instruction), m.remove(instruction));
        } else if (which == 2 && size > 0) {
            int instruction = random.nextInt(size);
            if (m.jumps(instruction)) {
                setTarget(instruction, random.nextInt(41));
            }
        } else if (which == 3 && size > 0) {
            setUse(random.nextInt(size));
        } else if (which == 4) {
            int many = 1 + random.nextInt(3);
            Check.same(name + "sweep(" + many + ")", x.sweep(many), m.sweep(many));
        } else if (which == 5) {
            int many = 1 + random.nextInt(20);
            Check.same(name + "wouldCross(" + many + ")", x.wouldCross(many), m.wouldCross(many));
        } else {
            Check.same(name + "crossings()", x.crossings(), m.crossings());
            Check.same(name + "swept()", x.swept(), m.swept);
        }
    }

    private void compareAll() {
        compareCode();
        compareBlocks();
        compareEdges();
        compareDrawing();
        Check.same(name + "loops()", x.loops(), m.loops());
        Check.same(name + "isTame()", x.isTame(), m.isTame());
        Check.same(name + "vain()", x.vain(), m.vain());
        Check.same(name + "windings()", x.windings(), m.windings());
        Check.same(name + "steps()", x.steps(), m.steps.size());
        for (int s = 0; s < x.steps(); s++) {
            Check.same(name + "ruleOf(" + s + ")", x.ruleOf(s), m.steps.get(s)[0]);
            Check.same(name + "nodeOf(" + s + ")", x.nodeOf(s), m.steps.get(s)[1]);
        }
        Check.same(name + "left()", x.left(), m.nodesLeft);
        Check.same(name + "isNeat()", x.isNeat(), m.nodesLeft == 1);
        Check.same(name + "digest()", x.digest(), m.digest());
        compareEnds();
    }

    private void compareCode() {
        Check.same(name + "instructions()", x.instructions(), m.code.size());
        for (int i = 0; i < x.instructions(); i++) {
            Check.same(name + "kindOf(" + i + ")", x.kindOf(i), m.code.get(i)[0]);
            Check.same(name + "targetOf(" + i + ")", x.targetOf(i), m.code.get(i)[1]);
            Check.same(name + "blockOf(" + i + ")", x.blockOf(i), m.home[i]);
        }
    }

    private void compareBlocks() {
        Check.same(name + "blocks()", x.blocks(), m.blocks.size());
        for (int b = 0; b < x.blocks(); b++) {
            Check.same(name + "firstOf(" + b + ")", x.firstOf(b), m.blocks.get(b).get(0));
            Check.same(name + "isReached(" + b + ")", x.isReached(b), m.reached.contains(b));
            Check.same(name + "parentOf(" + b + ")", x.parentOf(b), m.parentOf(b));
            Check.same(name + "loopSize(" + b + ")", x.loopSize(b), m.loop(b).size());
            Check.same(name + "depthOf(" + b + ")", x.depthOf(b), m.depthOf(b));
            Check.same(name + "liveIn(" + b + ")", x.liveIn(b), m.liveIn(b));
            Check.same(name + "endsIn(" + b + ")", x.endsIn(b), m.ends[b]);
            Check.same(name + "layerOf(" + b + ")", x.layerOf(b), m.layer[b]);
            Check.same(name + "placeOf(" + b + ")", x.placeOf(b), m.placeOf(b));
            for (int o = 0; o < x.blocks(); o++) {
                Check.same(name + "dominates(" + b + ", " + o + ")",
                        x.dominates(b, o), m.dominates(b, o));
                Check.same(name + "comesBehind(" + b + ", " + o + ")",
                        x.comesBehind(b, o), m.comesBehind(b, o));
            }
        }
    }

    private void compareEdges() {
        Check.same(name + "edges()", x.edges(), m.edges.size());
        for (int e = 0; e < x.edges(); e++) {
            Check.same(name + "edgeFrom(" + e + ")", x.edgeFrom(e), m.edges.get(e)[0]);
            Check.same(name + "edgeTo(" + e + ")", x.edgeTo(e), m.edges.get(e)[1]);
            Check.same(name + "isBack(" + e + ")", x.isBack(e), m.isBack(e));
            Check.same(name + "isTurned(" + e + ")", x.isTurned(e), m.isTurned(e));
            Check.same(name + "bends(" + e + ")", x.bends(e), m.bends(e));
            for (int k = 0; k < x.bends(e); k++) {
                Check.same(name + "bendAt(" + e + ", " + k + ")", x.bendAt(e, k), m.bendAt(e, k));
            }
        }
    }

    private void compareDrawing() {
        Check.same(name + "layers()", x.layers(), m.orders.size());
        for (int l = 0; l < x.layers(); l++) {
            Check.same(name + "points(" + l + ")", x.points(l), m.orders.get(l).size());
            for (int i = 0; i < x.points(l); i++) {
                Check.same(name + "pointAt(" + l + ", " + i + ")", x.pointAt(l, i), m.pointAt(l, i));
            }
        }
        Check.same(name + "crossings()", x.crossings(), m.crossings());
        Check.same(name + "swept()", x.swept(), m.swept);
        Check.same(name + "meanLength()", x.meanLength(), m.meanLength());
    }

    /** One behind the last of each row, and one ahead of the first, are refused. */
    private void compareEnds() {
        for (int k = -1; k <= 0; k++) {
            int end = k;
            Check.noPlace(name + "kindOf", () -> x.kindOf(end < 0 ? -1 : x.instructions()));
            Check.noPlace(name + "firstOf", () -> x.firstOf(end < 0 ? -1 : x.blocks()));
            Check.noPlace(name + "edgeTo", () -> x.edgeTo(end < 0 ? -1 : x.edges()));
            Check.noPlace(name + "ruleOf", () -> x.ruleOf(end < 0 ? -1 : x.steps()));
            Check.noPlace(name + "points", () -> x.points(end < 0 ? -1 : x.layers()));
        }
    }
}
