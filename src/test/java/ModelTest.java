import java.util.List;
import java.util.Random;

/**
 * Compares OrielChart with the Model, call by call, over runs that are the same each time. No object
 * has more than 512 calls; what is asked for is as often one too small or too large as it goes.
 */
public final class ModelTest {
    private static final int RUNS = 600;
    private static final int CALLS = 512;

    private final Random random;
    private final String name;
    /** Full code takes the Model long, so few runs begin with it. */
    private final boolean full;
    private final OrielChart x = new OrielChart();
    private final Model m = new Model();
    private int calls = 0;

    private ModelTest(int run) {
        random = new Random(run);
        name = "run " + run + ": ";
        full = run % 40 == 0;
    }

    public static void main(String[] args) {
        for (int run = 0; run < RUNS && Check.wrongSoFar() == 0; run++) {
            new ModelTest(run).run();
        }
        Check.finish();
    }

    private void run() {
        fill(random.nextInt(41), full ? 4 : random.nextInt(4));
        same("digest()", x.digest(), m.digest());
        while (calls < CALLS - 1 && Check.wrongSoFar() == 0) {
            int r = random.nextInt(40);
            if (r == 0) {
                same("digest()", x.digest(), m.digest());
            } else if (r < 6) {
                change();
            } else {
                List<Question> all = questions();
                ask(all.get(random.nextInt(all.size())));
            }
        }
        same("digest()", x.digest(), m.digest());
    }

    private void same(String what, long got, long due) {
        calls++;
        Check.same(name + what, got, due);
    }

    /**
     * Writes code at first: of mixed kinds, of many IFs, of many jumps ahead, of short ones, or full
     * and of IFs alone, so that there are as many layers as can be.
     */
    private void fill(int some, int style) {
        int size = style == 4 ? 40 : some;
        for (int i = 0; i < size; i++) {
            insert(i, kind(style), 0);
        }
        for (int i = 0; i < size; i++) {
            if (m.jumps(i)) {
                setTarget(i, target(i, size, style));
            }
        }
        for (int i = 0; i < size; i++) {
            if (random.nextInt(2) == 0) {
                setUse(i);
            }
        }
    }

    private int kind(int style) {
        int r = random.nextInt(20);
        if (style == 4) {
            return 1;
        }
        if (style == 0) {
            return r % 4;
        }
        return r < 5 ? 0 : r < 17 ? 1 : r < 19 ? 2 : 3;
    }

    private int target(int from, int size, int style) {
        if (style == 2 && random.nextInt(5) > 0) {
            return Math.min(40, from + 1 + random.nextInt(size - from));
        }
        if (style == 3) {
            return Math.max(0, Math.min(40, from - 3 + random.nextInt(9)));
        }
        return random.nextInt(Math.min(41, size + 2));
    }

    /** One of some numbers, now and then one too small or too large. */
    private int around(int least, int most) {
        int r = random.nextInt(12);
        if (r < 2) {
            return r == 0 ? least - 1 : most + 1;
        }
        return least + random.nextInt(Math.max(1, most - least + 1));
    }

    private static boolean isIn(int number, int least, int most) {
        return number >= least && number <= most;
    }

    private interface Change {
        int run();
    }

    /** What is refused is not told to the Model at all. */
    private void call(String what, Class<?> due, Change got, Change told) {
        if (due == null) {
            same(what, got.run(), told.run());
        } else {
            calls++;
            Check.refuses(name + what, due, got::run);
        }
    }

    private void insert(int place, int kind, int target) {
        boolean right = isIn(place, 0, m.code.size()) && isIn(kind, 0, 3)
                && (kind == 0 || kind == 3 || isIn(target, 0, 40));
        Class<?> due = !right ? IllegalArgumentException.class
                : m.code.size() == 40 ? IllegalStateException.class : null;
        call("insert(" + place + ", " + kind + ", " + target + ")", due,
                () -> x.insert(place, kind, target), () -> m.insert(place, kind, target));
    }

    private void remove(int instruction) {
        boolean isThere = isIn(instruction, 0, m.code.size() - 1);
        call("remove(" + instruction + ")", isThere ? null : IndexOutOfBoundsException.class,
                () -> x.remove(instruction), () -> m.remove(instruction));
    }

    private void setTarget(int instruction, int target) {
        boolean isThere = isIn(instruction, 0, m.code.size() - 1);
        Class<?> due = !isThere ? IndexOutOfBoundsException.class
                : !m.jumps(instruction) || !isIn(target, 0, 40) ? IllegalArgumentException.class
                : null;
        call("setTarget(" + instruction + ", " + target + ")", due,
                () -> x.setTarget(instruction, target), () -> m.setTarget(instruction, target));
    }

    private void setUse(int instruction) {
        int sets = around(-1, 7);
        int uses = around(0, 255) & (random.nextBoolean() ? -1 : random.nextInt(256));
        boolean isThere = isIn(instruction, 0, m.code.size() - 1);
        Class<?> due = !isThere ? IndexOutOfBoundsException.class
                : !isIn(sets, -1, 7) || !isIn(uses, 0, 255) ? IllegalArgumentException.class : null;
        call("setUse(" + instruction + ", " + sets + ", " + uses + ")", due,
                () -> x.setUse(instruction, sets, uses), () -> m.setUse(instruction, sets, uses));
    }

    private void sweep(int many) {
        call("sweep(" + many + ")", isIn(many, 1, 20) ? null : IllegalArgumentException.class,
                () -> x.sweep(many), () -> m.sweep(many));
    }

    private void wouldCross(int many) {
        call("wouldCross(" + many + ")", isIn(many, 1, 20) ? null : IllegalArgumentException.class,
                () -> x.wouldCross(many), () -> m.wouldCross(many));
    }

    private void change() {
        int size = m.code.size();
        switch (random.nextInt(8)) {
            case 0 -> insert(around(0, size), around(0, 3), around(0, 40));
            case 1 -> remove(around(0, size - 1));
            case 2 -> setTarget(around(0, size - 1), around(0, 40));
            case 3 -> setUse(around(0, size - 1));
            case 4 -> sweep(around(1, 20));
            case 5 -> wouldCross(around(1, 20));
            default -> sweep(1 + random.nextInt(2));
        }
    }

    /** What can be asked for of 0 to many - 1, and answers nothing else; -1 for no number at all. */
    private record Question(String what, int many, Check.Ask of, Check.Ask due) {}

    private static int bit(boolean so) {
        return so ? 1 : 0;
    }

    private void ask(Question q) {
        int number = Math.max(0, random.nextInt(q.many + 3 + q.many / 4) - 1);
        boolean isThere = q.many < 0 || number < q.many;
        if (!isThere && random.nextInt(2) == 0) {
            number = random.nextBoolean() ? -1 : Integer.MAX_VALUE - random.nextInt(2);
        }
        int asked = number;
        String what = q.what + " of " + asked;
        if (isThere) {
            same(what, q.of.of(asked), q.due.of(asked));
        } else {
            calls++;
            Check.noPlace(name + what, () -> q.of.of(asked));
        }
    }

    private List<Question> questions() {
        return switch (random.nextInt(5)) {
            case 0 -> onCode();
            case 1 -> onBlocks();
            case 2 -> onRanks();
            case 3 -> onReducing();
            default -> onDrawing();
        };
    }

    private List<Question> onCode() {
        int size = m.code.size();
        return List.of(
                new Question("instructions()", -1, i -> x.instructions(), i -> size),
                new Question("kindOf", size, x::kindOf, i -> m.code.get(i)[0]),
                new Question("targetOf", size, x::targetOf, i -> m.code.get(i)[1]),
                new Question("blockOf", size, x::blockOf, i -> m.home[i]));
    }

    private List<Question> onBlocks() {
        int size = m.blocks.size();
        int edges = m.edges.size();
        return List.of(
                new Question("blocks()", -1, b -> x.blocks(), b -> size),
                new Question("firstOf", size, x::firstOf, b -> m.blocks.get(b).get(0)),
                new Question("isReached", size, b -> bit(x.isReached(b)),
                        b -> bit(m.reached.contains(b))),
                new Question("edges()", -1, e -> x.edges(), e -> edges),
                new Question("edgeFrom", edges, x::edgeFrom, e -> m.edges.get(e)[0]),
                new Question("edgeTo", edges, x::edgeTo, e -> m.edges.get(e)[1]));
    }

    private List<Question> onRanks() {
        int size = m.blocks.size();
        int o = random.nextInt(Math.max(1, size));
        return List.of(
                new Question("dominates " + o, size, b -> bit(x.dominates(b, o)),
                        b -> bit(m.dominates(b, o))),
                new Question("dominated by " + o, size, b -> bit(x.dominates(o, b)),
                        b -> bit(m.dominates(o, b))),
                new Question("parentOf", size, x::parentOf, m::parentOf),
                new Question("comesBehind " + o, size, b -> bit(x.comesBehind(b, o)),
                        b -> bit(m.comesBehind(b, o))),
                new Question("ahead of " + o, size, b -> bit(x.comesBehind(o, b)),
                        b -> bit(m.comesBehind(o, b))),
                new Question("isBack", m.edges.size(), e -> bit(x.isBack(e)),
                        e -> bit(m.isBack(e))),
                new Question("loopSize", size, x::loopSize, b -> m.loop(b).size()),
                new Question("depthOf", size, x::depthOf, m::depthOf),
                new Question("liveIn", size, x::liveIn, m::liveIn),
                new Question("loops()", -1, k -> x.loops(), k -> m.loops()),
                new Question("isTame()", -1, k -> bit(x.isTame()), k -> bit(m.isTame())),
                new Question("vain()", -1, k -> x.vain(), k -> m.vain()),
                new Question("windings()", -1, k -> x.windings(), k -> m.windings()));
    }

    private List<Question> onReducing() {
        int steps = m.steps.size();
        return List.of(
                new Question("steps()", -1, s -> x.steps(), s -> steps),
                new Question("ruleOf", steps, x::ruleOf, s -> m.steps.get(s)[0]),
                new Question("nodeOf", steps, x::nodeOf, s -> m.steps.get(s)[1]),
                new Question("left()", -1, s -> x.left(), s -> m.nodesLeft),
                new Question("isNeat()", -1, s -> bit(x.isNeat()), s -> bit(m.nodesLeft == 1)),
                new Question("endsIn", m.blocks.size(), x::endsIn, b -> m.ends[b]));
    }

    private List<Question> onDrawing() {
        int size = m.blocks.size();
        int edges = m.edges.size();
        int layers = m.orders.size();
        int l = random.nextInt(Math.max(1, layers));
        int e = random.nextInt(Math.max(1, edges));
        return List.of(
                new Question("layers()", -1, k -> x.layers(), k -> layers),
                new Question("layerOf", size, x::layerOf, b -> m.layer[b]),
                new Question("isTurned", edges, k -> bit(x.isTurned(k)), k -> bit(m.isTurned(k))),
                new Question("points", layers, x::points, k -> m.orders.get(k).size()),
                new Question("pointAt " + l, layers == 0 ? 0 : m.orders.get(l).size(),
                        p -> x.pointAt(l, p), p -> m.pointAt(l, p)),
                new Question("pointAt 0, LAYER", layers, k -> x.pointAt(k, 0), k -> m.pointAt(k, 0)),
                new Question("placeOf", size, x::placeOf, m::placeOf),
                new Question("bends", edges, x::bends, m::bends),
                new Question("bendAt " + e, edges == 0 ? 0 : Math.max(0, m.bends(e)),
                        k -> x.bendAt(e, k), k -> m.bendAt(e, k)),
                new Question("crossings()", -1, k -> x.crossings(), k -> m.crossings()),
                new Question("swept()", -1, k -> x.swept(), k -> m.swept),
                new Question("meanLength()", -1, k -> Double.doubleToLongBits(x.meanLength()),
                        k -> Double.doubleToLongBits(m.meanLength())));
    }
}
