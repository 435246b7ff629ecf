/**
 * A visualiser for programs: it parts code into blocks, tells what holds of them, reduces their
 * graph to regions, and draws it in layers.
 *
 * <p>Each part of the answers is worked out when it is first asked for after a change, in rows that
 * the constructor makes once, so that no call but the constructor needs new room. Sets of blocks
 * and of nodes are longs: bit k stands for the one with the number k, bit EXIT for the EXIT.
 *
 * <p>All rows are read and written by at() and put(), which look at the index first; so no call can
 * fail by itself.
 */
public final class OrielChart {
    private static final int MOST = 40;
    private static final int MOST_EDGES = 80;
    private static final int EXIT = 40;

    /** Each merging takes a node away, and each ROUND an edge to itself: 40 at first, one per ROW. */
    private static final int MOST_STEPS = 120;

    /** Of L layers, L - 1 edges lie on the longest way and have no bend: 41 edges with 38 at most. */
    private static final int MOST_POINTS = 1600;

    private static final int MOST_IN_LAYER = 120;
    private static final int MOST_SWEEPS = 20;

    private static final int PLAIN = 0;
    private static final int IF = 1;
    private static final int GO = 2;
    private static final int STOP = 3;

    private static final int NO_RULE = -1;
    private static final int ROUND = 0;
    private static final int ROW = 1;
    private static final int SINGLE = 2;
    private static final int DOUBLE = 3;

    private final Code code;
    private final Flow flow;
    private final Ranks ranks;
    private final Lives lives;
    private final Reduction reduction;
    private final Picture picture;

    public OrielChart() {
        code = new Code();
        flow = new Flow();
        ranks = new Ranks();
        lives = new Lives();
        reduction = new Reduction();
        picture = new Picture();
    }

    // ---- code

    public int insert(int place, int kind, int target)
            throws IllegalArgumentException, IllegalStateException {
        if (place < 0 || place > code.count) {
            throw new IllegalArgumentException("no such place");
        }
        if (kind < PLAIN || kind > STOP) {
            throw new IllegalArgumentException("no such kind");
        }
        if (jumps(kind) && !isTarget(target)) {
            throw new IllegalArgumentException("no such target");
        }
        if (code.count >= MOST) {
            throw new IllegalStateException("there are 40 instructions");
        }
        code.add(place, kind, jumps(kind) ? target : 0);
        forget();
        return code.count;
    }

    public int remove(int instruction) throws IndexOutOfBoundsException {
        needInstruction(instruction);
        code.drop(instruction);
        forget();
        return code.count;
    }

    public int setTarget(int instruction, int target)
            throws IndexOutOfBoundsException, IllegalArgumentException {
        needInstruction(instruction);
        if (!jumps(at(code.kind, instruction))) {
            throw new IllegalArgumentException("neither an IF nor a GO");
        }
        if (!isTarget(target)) {
            throw new IllegalArgumentException("no such target");
        }
        int before = at(code.target, instruction);
        put(code.target, instruction, target);
        forget();
        return before;
    }

    public int setUse(int instruction, int sets, int uses)
            throws IndexOutOfBoundsException, IllegalArgumentException {
        needInstruction(instruction);
        if (sets < -1 || sets > 7) {
            throw new IllegalArgumentException("no such variable");
        }
        if (uses < 0 || uses > 255) {
            throw new IllegalArgumentException("no such set of variables");
        }
        int before = at(code.uses, instruction);
        put(code.sets, instruction, sets);
        put(code.uses, instruction, uses);
        // The drawing, with its sweeps, outlives a change of the variables.
        lives.fresh = false;
        return before;
    }

    public int instructions() {
        return code.count;
    }

    public int kindOf(int instruction) throws IndexOutOfBoundsException {
        needInstruction(instruction);
        return at(code.kind, instruction);
    }

    public int targetOf(int instruction) throws IndexOutOfBoundsException {
        needInstruction(instruction);
        return at(code.target, instruction);
    }

    // ---- blocks and edges

    public int blocks() {
        return freshFlow().blockCount;
    }

    public int blockOf(int instruction) throws IndexOutOfBoundsException {
        needInstruction(instruction);
        return at(freshFlow().home, instruction);
    }

    public int firstOf(int block) throws IndexOutOfBoundsException {
        needBlock(block);
        return at(freshFlow().first, block);
    }

    public boolean isReached(int block) throws IndexOutOfBoundsException {
        needBlock(block);
        return has(freshFlow().reached, block);
    }

    public int edges() {
        return freshFlow().edgeCount;
    }

    public int edgeFrom(int edge) throws IndexOutOfBoundsException {
        needEdge(edge);
        return at(freshFlow().from, edge);
    }

    public int edgeTo(int edge) throws IndexOutOfBoundsException {
        needEdge(edge);
        return at(freshFlow().to, edge);
    }

    // ---- who is ahead of whom

    public boolean dominates(int one, int other) throws IndexOutOfBoundsException {
        needBlock(one);
        needBlock(other);
        return freshRanks().rules(one, other);
    }

    public int parentOf(int block) throws IndexOutOfBoundsException {
        needBlock(block);
        return freshRanks().nearestAbove(block);
    }

    public boolean comesBehind(int one, int other) throws IndexOutOfBoundsException {
        needBlock(one);
        needBlock(other);
        return freshFlow().mustPass(one, other);
    }

    public boolean isBack(int edge) throws IndexOutOfBoundsException {
        needEdge(edge);
        return freshRanks().goesBack(freshFlow(), edge);
    }

    public int loops() {
        return freshRanks().loopCount;
    }

    public int loopSize(int block) throws IndexOutOfBoundsException {
        needBlock(block);
        return Long.bitCount(at(freshRanks().loop, block));
    }

    public int depthOf(int block) throws IndexOutOfBoundsException {
        needBlock(block);
        return freshRanks().loopsAround(block);
    }

    public boolean isTame() {
        return freshRanks().tame;
    }

    public int liveIn(int block) throws IndexOutOfBoundsException {
        needBlock(block);
        return at(freshLives().live, block);
    }

    public int vain() {
        return freshLives().vainCount;
    }

    public int windings() {
        return freshFlow().countWindings();
    }

    // ---- reducing

    public int steps() {
        return freshReduction().stepCount;
    }

    public int ruleOf(int step) throws IndexOutOfBoundsException {
        needStep(step);
        return at(freshReduction().rule, step);
    }

    public int nodeOf(int step) throws IndexOutOfBoundsException {
        needStep(step);
        return at(freshReduction().node, step);
    }

    public int left() {
        return Long.bitCount(freshReduction().nodes);
    }

    public boolean isNeat() {
        return Long.bitCount(freshReduction().nodes) == 1;
    }

    public int endsIn(int block) throws IndexOutOfBoundsException {
        needBlock(block);
        return at(freshReduction().home, block);
    }

    // ---- drawing

    public int layers() {
        return freshPicture().layerCount;
    }

    public int layerOf(int block) throws IndexOutOfBoundsException {
        needBlock(block);
        return at(freshPicture().layer, block);
    }

    public boolean isTurned(int edge) throws IndexOutOfBoundsException {
        needEdge(edge);
        return freshPicture().walk.turns(freshFlow(), edge);
    }

    public int points(int layer) throws IndexOutOfBoundsException {
        needLayer(layer);
        return freshPicture().sizeOf(layer);
    }

    public int pointAt(int layer, int place) throws IndexOutOfBoundsException {
        needLayer(layer);
        if (place < 0 || place >= freshPicture().sizeOf(layer)) {
            throw new IndexOutOfBoundsException("no such place");
        }
        return freshPicture().shownAt(layer, place);
    }

    public int placeOf(int block) throws IndexOutOfBoundsException {
        needBlock(block);
        return freshPicture().placeOfBlock(block);
    }

    public int bends(int edge) throws IndexOutOfBoundsException {
        needEdge(edge);
        return freshPicture().bendCount(edge);
    }

    public int bendAt(int edge, int bend) throws IndexOutOfBoundsException {
        needEdge(edge);
        if (bend < 0 || bend >= freshPicture().bendCount(edge)) {
            throw new IndexOutOfBoundsException("no such bend");
        }
        return freshPicture().placeOfBend(edge, bend);
    }

    public int crossings() {
        return freshPicture().countCrossings();
    }

    public int sweep(int many) throws IllegalArgumentException {
        needSweeps(many);
        freshPicture().sweepOften(many);
        return freshPicture().countCrossings();
    }

    public int wouldCross(int many) throws IllegalArgumentException {
        needSweeps(many);
        return freshPicture().tryOut(many);
    }

    public int swept() {
        return freshPicture().sweeps;
    }

    public double meanLength() {
        return freshPicture().meanSpan();
    }

    public long digest() {
        freshRanks();
        freshLives();
        freshReduction();
        freshPicture();
        long d = digestOfCode(2557L);
        d = digestOfBlocks(d);
        d = digestOfEdges(d);
        d = mix(d, ranks.loopCount);
        d = mix(d, ranks.tame);
        d = mix(d, lives.vainCount);
        d = mix(d, flow.countWindings());
        d = digestOfSteps(d);
        d = digestOfLayers(d);
        d = mix(d, picture.countCrossings());
        return mix(d, picture.sweeps);
    }

    private long digestOfCode(long begun) {
        long d = mix(begun, code.count);
        for (int i = 0; i < code.count; i++) {
            d = mix(d, at(code.kind, i));
            d = mix(d, at(code.target, i));
            d = mix(d, at(flow.home, i));
        }
        return d;
    }

    private long digestOfBlocks(long begun) {
        long d = mix(begun, flow.blockCount);
        for (int b = 0; b < flow.blockCount; b++) {
            d = mix(d, at(flow.first, b));
            d = mix(d, has(flow.reached, b));
            d = mix(d, ranks.nearestAbove(b));
            d = mix(d, Long.bitCount(at(ranks.loop, b)));
            d = mix(d, ranks.loopsAround(b));
            d = mix(d, at(lives.live, b));
            d = mix(d, at(reduction.home, b));
            d = mix(d, at(picture.layer, b));
            d = mix(d, picture.placeOfBlock(b));
        }
        return d;
    }

    private long digestOfEdges(long begun) {
        long d = mix(begun, flow.edgeCount);
        for (int e = 0; e < flow.edgeCount; e++) {
            d = mix(d, at(flow.from, e));
            d = mix(d, at(flow.to, e));
            d = mix(d, ranks.goesBack(flow, e));
            d = mix(d, picture.walk.turns(flow, e));
            d = mix(d, picture.bendCount(e));
        }
        return d;
    }

    private long digestOfSteps(long begun) {
        long d = mix(begun, reduction.stepCount);
        for (int s = 0; s < reduction.stepCount; s++) {
            d = mix(d, at(reduction.rule, s));
            d = mix(d, at(reduction.node, s));
        }
        d = mix(d, Long.bitCount(reduction.nodes));
        return mix(d, Long.bitCount(reduction.nodes) == 1);
    }

    private long digestOfLayers(long begun) {
        long d = mix(begun, picture.layerCount);
        for (int l = 0; l < picture.layerCount; l++) {
            int size = picture.sizeOf(l);
            d = mix(d, size);
            for (int i = 0; i < size; i++) {
                d = mix(d, picture.shownAt(l, i));
            }
        }
        return d;
    }

    // ---- what is there to be asked for

    private void needInstruction(int instruction) {
        if (instruction < 0 || instruction >= code.count) {
            throw new IndexOutOfBoundsException("no such instruction");
        }
    }

    private void needBlock(int block) {
        if (block < 0 || block >= freshFlow().blockCount) {
            throw new IndexOutOfBoundsException("no such block");
        }
    }

    private void needEdge(int edge) {
        if (edge < 0 || edge >= freshFlow().edgeCount) {
            throw new IndexOutOfBoundsException("no such edge");
        }
    }

    private void needStep(int step) {
        if (step < 0 || step >= freshReduction().stepCount) {
            throw new IndexOutOfBoundsException("no such step");
        }
    }

    private void needLayer(int layer) {
        if (layer < 0 || layer >= freshPicture().layerCount) {
            throw new IndexOutOfBoundsException("no such layer");
        }
    }

    private static void needSweeps(int many) {
        if (many < 1 || many > MOST_SWEEPS) {
            throw new IllegalArgumentException("1 to 20 sweeps only");
        }
    }

    private static boolean isTarget(int target) {
        return target >= 0 && target <= MOST;
    }

    // ---- the parts, worked out anew when the code has changed

    private void forget() {
        flow.fresh = false;
        ranks.fresh = false;
        lives.fresh = false;
        reduction.fresh = false;
        picture.fresh = false;
    }

    private Flow freshFlow() {
        if (!flow.fresh) {
            flow.part(code);
            flow.fresh = true;
        }
        return flow;
    }

    private Ranks freshRanks() {
        if (!ranks.fresh) {
            ranks.rank(freshFlow());
            ranks.fresh = true;
        }
        return ranks;
    }

    private Lives freshLives() {
        if (!lives.fresh) {
            lives.follow(code, freshFlow());
            lives.fresh = true;
        }
        return lives;
    }

    private Reduction freshReduction() {
        if (!reduction.fresh) {
            reduction.reduce(freshFlow());
            reduction.fresh = true;
        }
        return reduction;
    }

    private Picture freshPicture() {
        if (!picture.fresh) {
            picture.draw(freshFlow());
            picture.fresh = true;
        }
        return picture;
    }

    // ---- rows and sets

    private static int at(int[] row, int index) {
        return row != null && index >= 0 && index < row.length ? row[index] : 0;
    }

    private static long at(long[] row, int index) {
        return row != null && index >= 0 && index < row.length ? row[index] : 0L;
    }

    private static void put(int[] row, int index, int value) {
        if (row != null && index >= 0 && index < row.length) {
            row[index] = value;
        }
    }

    private static void put(long[] row, int index, long value) {
        if (row != null && index >= 0 && index < row.length) {
            row[index] = value;
        }
    }

    private static long bit(int number) {
        return 1L << number;
    }

    private static boolean has(long set, int number) {
        return (set >>> number & 1L) != 0L;
    }

    private static int lowest(long set) {
        return Long.bitCount((set & -set) - 1L);
    }

    /** All that one comes to from a set along the rows of next, the set too, but never by without. */
    private static long spread(long[] next, long set, long without) {
        long seen = set & ~without;
        long open = seen;
        for (int taken = 0; taken <= EXIT && open != 0L; taken++) {
            int number = lowest(open);
            open &= ~bit(number);
            long more = at(next, number) & ~seen & ~without;
            seen |= more;
            open |= more;
        }
        return seen;
    }

    private static boolean jumps(int kind) {
        return kind == IF || kind == GO;
    }

    private static long mix(long d, int value) {
        return d * 31L + value;
    }

    private static long mix(long d, boolean so) {
        return d * 31L + (so ? 1L : 0L);
    }

    /** The instructions, as they are written. */
    private static final class Code {
        private final int[] kind = new int[MOST];
        private final int[] target = new int[MOST];
        private final int[] sets = new int[MOST];
        private final int[] uses = new int[MOST];
        private int count;

        void add(int place, int newKind, int newTarget) {
            shiftTargets(place, 1);
            for (int i = count; i > place; i--) {
                copy(i - 1, i);
            }
            put(kind, place, newKind);
            put(target, place, newTarget);
            put(sets, place, -1);
            put(uses, place, 0);
            count++;
        }

        void drop(int instruction) {
            count--;
            for (int i = instruction; i < count; i++) {
                copy(i + 1, i);
            }
            shiftTargets(instruction, -1);
        }

        private void shiftTargets(int beyond, int by) {
            for (int i = 0; i < count; i++) {
                int old = at(target, i);
                if (old > beyond) {
                    put(target, i, Math.min(old + by, MOST));
                }
            }
        }

        private void copy(int source, int goal) {
            put(kind, goal, at(kind, source));
            put(target, goal, at(target, source));
            put(sets, goal, at(sets, source));
            put(uses, goal, at(uses, source));
        }
    }

    /** The blocks and the edges between them. */
    private static final class Flow {
        private final int[] home = new int[MOST];
        private final int[] first = new int[MOST];
        private final int[] last = new int[MOST];
        private final int[] from = new int[MOST_EDGES];
        private final int[] to = new int[MOST_EDGES];
        private final int[] firstEdge = new int[MOST + 1];
        private final long[] next = new long[MOST];
        private int blockCount;
        private int edgeCount;
        private long reached;
        private boolean fresh;

        void part(Code code) {
            cut(code.count, leadersOf(code));
            edgeCount = 0;
            for (int b = 0; b < blockCount; b++) {
                put(firstEdge, b, edgeCount);
                put(next, b, 0L);
                leave(code, b);
            }
            put(firstEdge, blockCount, edgeCount);
            reached = blockCount > 0 ? spread(next, 1L, bit(EXIT)) : 0L;
        }

        private static long leadersOf(Code code) {
            long leaders = 1L;
            for (int i = 0; i < code.count; i++) {
                int kind = at(code.kind, i);
                if (kind != PLAIN) {
                    leaders |= bit(i + 1);
                }
                if (jumps(kind)) {
                    leaders |= bit(at(code.target, i));
                }
            }
            return leaders;
        }

        private void cut(int count, long leaders) {
            blockCount = 0;
            for (int i = 0; i < count; i++) {
                if (has(leaders, i)) {
                    put(first, blockCount, i);
                    blockCount++;
                }
                put(home, i, blockCount - 1);
                put(last, blockCount - 1, i);
            }
        }

        private void leave(Code code, int block) {
            int end = at(last, block);
            int kind = at(code.kind, end);
            if (kind == PLAIN || kind == IF) {
                join(block, end + 1, code.count);
            }
            if (jumps(kind)) {
                join(block, at(code.target, end), code.count);
            }
            if (kind == STOP) {
                join(block, code.count, code.count);
            }
        }

        private void join(int block, int instruction, int count) {
            int goal = instruction < count ? at(home, instruction) : EXIT;
            long known = at(next, block);
            if (has(known, goal)) {
                return;
            }
            put(next, block, known | bit(goal));
            put(from, edgeCount, block);
            put(to, edgeCount, goal == EXIT ? -1 : goal);
            edgeCount++;
        }

        /** Whether the EXIT is to be reached from a block, and only by way of another one. */
        boolean mustPass(int by, int block) {
            if (!has(reached, by) || !has(reached, block)) {
                return false;
            }
            return has(spread(next, bit(block), 0L), EXIT)
                    && !has(spread(next, bit(block), bit(by)), EXIT);
        }

        int countWindings() {
            if (blockCount == 0) {
                return 0;
            }
            int many = 0;
            for (int e = 0; e < edgeCount; e++) {
                if (has(reached, at(from, e))) {
                    many++;
                }
            }
            return many - Long.bitCount(reached) - 1 + 2;
        }
    }

    /** Who dominates whom, and the loops. */
    private static final class Ranks {
        private final long[] ruled = new long[MOST];
        private final long[] loop = new long[MOST];
        private final long[] previous = new long[MOST];
        private final long[] onward = new long[MOST];
        private int loopCount;
        private boolean tame;
        private boolean fresh;

        void rank(Flow flow) {
            for (int b = 0; b < MOST; b++) {
                put(ruled, b, has(flow.reached, b) ? ruledBy(flow, b) : 0L);
                put(previous, b, 0L);
                put(loop, b, 0L);
            }
            sortEdges(flow);
            loopCount = 0;
            tame = true;
            for (int b = 0; b < flow.blockCount; b++) {
                closeLoop(b);
                if (has(spread(onward, at(onward, b), 0L), b)) {
                    tame = false;
                }
            }
        }

        private static long ruledBy(Flow flow, int block) {
            return flow.reached & ~spread(flow.next, 1L, bit(block));
        }

        /** Fills previous, and onward without the edges that are back. */
        private void sortEdges(Flow flow) {
            for (int b = 0; b < MOST; b++) {
                put(onward, b, 0L);
            }
            for (int e = 0; e < flow.edgeCount; e++) {
                int from = at(flow.from, e);
                int to = at(flow.to, e);
                if (to >= 0 && has(flow.reached, from)) {
                    put(previous, to, at(previous, to) | bit(from));
                    if (!rules(to, from)) {
                        put(onward, from, at(onward, from) | bit(to));
                    }
                }
            }
        }

        private void closeLoop(int head) {
            long ends = at(previous, head) & at(ruled, head);
            if (ends != 0L) {
                put(loop, head, bit(head) | spread(previous, ends, bit(head)));
                loopCount++;
            }
        }

        boolean rules(int one, int other) {
            return has(at(ruled, one), other);
        }

        /** Those that dominate a block lie in a row, so the nearest dominates the fewest. */
        int nearestAbove(int block) {
            int nearest = -1;
            int fewest = MOST + 1;
            for (int d = 0; d < MOST; d++) {
                int many = Long.bitCount(at(ruled, d));
                if (d != block && rules(d, block) && many < fewest) {
                    nearest = d;
                    fewest = many;
                }
            }
            return nearest;
        }

        boolean goesBack(Flow flow, int edge) {
            int to = at(flow.to, edge);
            return to >= 0 && rules(to, at(flow.from, edge));
        }

        int loopsAround(int block) {
            int many = 0;
            for (int h = 0; h < MOST; h++) {
                if (has(at(loop, h), block)) {
                    many++;
                }
            }
            return many;
        }
    }

    /** Which variables live where. */
    private static final class Lives {
        private final int[] live = new int[MOST];
        private int vainCount;
        private boolean fresh;

        void follow(Code code, Flow flow) {
            for (int b = 0; b < MOST; b++) {
                put(live, b, 0);
            }
            // A way without a circle has at most 40 blocks, so what is live has come along by then.
            boolean changed = true;
            for (int pass = 0; pass <= MOST && changed; pass++) {
                changed = passUp(code, flow);
            }
            vainCount = 0;
            for (int b = 0; b < flow.blockCount; b++) {
                if (has(flow.reached, b)) {
                    vainCount += vainIn(code, flow, b);
                }
            }
        }

        private boolean passUp(Code code, Flow flow) {
            boolean changed = false;
            for (int b = flow.blockCount - 1; b >= 0; b--) {
                if (has(flow.reached, b)) {
                    int now = behind(flow, b);
                    for (int i = at(flow.last, b); i >= at(flow.first, b); i--) {
                        now = ahead(code, i, now);
                    }
                    changed = changed || now != at(live, b);
                    put(live, b, now);
                }
            }
            return changed;
        }

        private int vainIn(Code code, Flow flow, int block) {
            int many = 0;
            int now = behind(flow, block);
            for (int i = at(flow.last, block); i >= at(flow.first, block); i--) {
                int sets = at(code.sets, i);
                if (sets >= 0 && !has(now, sets)) {
                    many++;
                }
                now = ahead(code, i, now);
            }
            return many;
        }

        private int behind(Flow flow, int block) {
            long next = at(flow.next, block);
            int now = 0;
            for (int b = 0; b < flow.blockCount; b++) {
                if (has(next, b)) {
                    now |= at(live, b);
                }
            }
            return now;
        }

        private static int ahead(Code code, int instruction, int now) {
            int sets = at(code.sets, instruction);
            int kept = sets >= 0 ? now & ~(1 << sets) : now;
            return kept | at(code.uses, instruction);
        }
    }

    /** The graph, reduced to regions as long as it goes. */
    private static final class Reduction {
        private final long[] next = new long[MOST];
        private final int[] home = new int[MOST];
        private final int[] rule = new int[MOST_STEPS];
        private final int[] node = new int[MOST_STEPS];
        private final int[] entry = new int[MOST + 1];
        private long nodes;
        private int stepCount;
        private boolean fresh;

        void reduce(Flow flow) {
            nodes = flow.reached;
            stepCount = 0;
            for (int b = 0; b < MOST; b++) {
                boolean isNode = has(nodes, b);
                put(next, b, isNode ? at(flow.next, b) : 0L);
                put(home, b, isNode ? b : -1);
            }
            boolean going = true;
            for (int s = 0; s < MOST_STEPS && going; s++) {
                going = takeStep();
            }
        }

        private boolean takeStep() {
            findEntries();
            for (int n = 0; n < MOST; n++) {
                int found = has(nodes, n) ? ruleFor(n) : NO_RULE;
                if (found != NO_RULE) {
                    put(rule, stepCount, found);
                    put(node, stepCount, n);
                    stepCount++;
                    apply(found, n);
                    return true;
                }
            }
            return false;
        }

        /**
         * Tells of each node from which one the only edge to it goes, -1 where there is no only one;
         * likewise of the EXIT and of the node with the BLOCK 0 in it, which are never taken into
         * another one. That node always has the number 0, the smallest.
         */
        private void findEntries() {
            long once = 0L;
            long twice = bit(EXIT) | 1L;
            for (int n = 0; n < MOST; n++) {
                long out = at(next, n);
                twice |= once & out;
                once |= out;
            }
            long only = once & ~twice;
            for (int n = 0; n <= MOST; n++) {
                put(entry, n, -1);
            }
            for (int n = 0; n < MOST; n++) {
                long mine = at(next, n) & only;
                for (int b = 0; b < MOST && mine != 0L; b++) {
                    if (has(mine, b)) {
                        put(entry, b, n);
                    }
                }
            }
        }

        private int ruleFor(int a) {
            long out = at(next, a);
            if (has(out, a)) {
                return ROUND;
            }
            int many = Long.bitCount(out);
            int b = lowest(out);
            if (many == 1) {
                return at(entry, b) == a ? ROW : NO_RULE;
            }
            if (many != 2) {
                return NO_RULE;
            }
            int c = lowest(out & ~bit(b));
            if (isSingle(a, b, c) || isSingle(a, c, b)) {
                return SINGLE;
            }
            return isDouble(a, b, c) ? DOUBLE : NO_RULE;
        }

        private boolean isSingle(int a, int b, int c) {
            return at(entry, b) == a && at(next, b) == bit(c);
        }

        private boolean isDouble(int a, int b, int c) {
            long goal = at(next, b);
            return at(entry, b) == a && at(entry, c) == a && Long.bitCount(goal) == 1
                    && goal == at(next, c) && (goal & (bit(a) | bit(b) | bit(c))) == 0L;
        }

        private void apply(int found, int a) {
            long out = at(next, a);
            if (found == ROUND) {
                put(next, a, out & ~bit(a));
                return;
            }
            long members = bit(a) | out;
            if (found == SINGLE) {
                int b = lowest(out);
                int c = lowest(out & ~bit(b));
                members &= ~bit(isSingle(a, b, c) ? c : b);
            }
            boolean circles = found == ROW && has(at(next, lowest(out)), a);
            merge(members, lowest(members), circles);
        }

        private void merge(long members, int name, boolean circles) {
            long out = 0L;
            for (int n = 0; n < MOST; n++) {
                if (has(members, n)) {
                    out |= at(next, n);
                    put(next, n, 0L);
                }
            }
            put(next, name, out & ~members | (circles ? bit(name) : 0L));
            nodes = nodes & ~members | bit(name);
            for (int n = 0; n < MOST; n++) {
                long goals = at(next, n);
                if ((goals & members) != 0L) {
                    put(next, n, goals & ~members | bit(name));
                }
                int old = at(home, n);
                if (old >= 0 && has(members, old)) {
                    put(home, n, name);
                }
            }
        }
    }

    /** The way through the graph that tells which edges are drawn, and in which direction. */
    private static final class Walk {
        private final int[] came = new int[MOST];
        private final int[] upper = new int[MOST_EDGES];
        private final int[] lower = new int[MOST_EDGES];
        private final int[] open = new int[MOST];
        private final int[] edge = new int[MOST];
        private int cameCount;
        private int openCount;
        private long seen;
        private long stillGoing;

        void goThrough(Flow flow) {
            cameCount = 0;
            openCount = 0;
            seen = 0L;
            stillGoing = 0L;
            for (int e = 0; e < MOST_EDGES; e++) {
                put(upper, e, -1);
                put(lower, e, -1);
            }
            if (flow.blockCount > 0) {
                enter(flow, 0);
            }
            // Each turn takes an edge or leaves a block, and none of them twice.
            for (int turn = 0; turn < MOST + MOST_EDGES && openCount > 0; turn++) {
                goOn(flow, at(open, openCount - 1));
            }
        }

        private void enter(Flow flow, int block) {
            put(came, cameCount, block);
            cameCount++;
            put(open, openCount, block);
            openCount++;
            put(edge, block, at(flow.firstEdge, block));
            seen |= bit(block);
            stillGoing |= bit(block);
        }

        private void goOn(Flow flow, int block) {
            int e = at(edge, block);
            if (e >= at(flow.firstEdge, block + 1)) {
                openCount--;
                stillGoing &= ~bit(block);
                return;
            }
            put(edge, block, e + 1);
            int goal = at(flow.to, e);
            if (goal < 0 || goal == block) {
                return;
            }
            boolean turned = has(stillGoing, goal);
            put(upper, e, turned ? goal : block);
            put(lower, e, turned ? block : goal);
            if (!has(seen, goal)) {
                enter(flow, goal);
            }
        }

        boolean draws(int e) {
            return at(upper, e) >= 0;
        }

        boolean turns(Flow flow, int e) {
            return draws(e) && at(upper, e) == at(flow.to, e);
        }
    }

    /**
     * The drawing. A POINT has a number: a BLOCK its own, a BEND one from 40 on, by its edge and
     * then by its layer. The ORDERS of all layers lie in one row, one layer behind the other.
     */
    private static final class Picture {
        private final Walk walk = new Walk();
        private final int[] layer = new int[MOST];
        private final int[] start = new int[MOST + 1];
        private final int[] firstBend = new int[MOST_EDGES];
        private final int[] edgeOf = new int[MOST_POINTS];
        private final int[] order = new int[MOST_POINTS];
        private final int[] place = new int[MOST_POINTS];
        private final int[] kept = new int[MOST_POINTS];
        private final int[] sum = new int[MOST_IN_LAYER];
        private final int[] lines = new int[MOST_IN_LAYER];
        private final int[] above = new int[MOST_EDGES];
        private final int[] below = new int[MOST_EDGES];
        private int edgeCount;
        private int layerCount;
        private int sweeps;
        private boolean fresh;

        void draw(Flow flow) {
            edgeCount = flow.edgeCount;
            sweeps = 0;
            walk.goThrough(flow);
            setLayers();
            numberBends();
            int filled = 0;
            for (int l = 0; l < layerCount; l++) {
                put(start, l, filled);
                filled = fill(l, filled);
            }
            put(start, layerCount, filled);
        }

        private void setLayers() {
            for (int b = 0; b < MOST; b++) {
                put(layer, b, has(walk.seen, b) ? 0 : -1);
            }
            // As they are drawn, the edges make no circle, so the longest way has 39 at most.
            boolean changed = true;
            for (int pass = 0; pass < MOST && changed; pass++) {
                changed = pushDown();
            }
            layerCount = 0;
            for (int b = 0; b < MOST; b++) {
                layerCount = Math.max(layerCount, at(layer, b) + 1);
            }
        }

        private boolean pushDown() {
            boolean changed = false;
            for (int e = 0; e < edgeCount; e++) {
                if (walk.draws(e) && at(layer, at(walk.lower, e)) <= top(e)) {
                    put(layer, at(walk.lower, e), top(e) + 1);
                    changed = true;
                }
            }
            return changed;
        }

        private int top(int e) {
            return at(layer, at(walk.upper, e));
        }

        private int bottom(int e) {
            return at(layer, at(walk.lower, e));
        }

        private void numberBends() {
            int number = MOST;
            for (int e = 0; e < edgeCount; e++) {
                put(firstBend, e, number);
                int many = bendCount(e);
                for (int k = 0; k < many; k++) {
                    put(edgeOf, number, e);
                    number++;
                }
            }
        }

        private int fill(int l, int filled) {
            int now = filled;
            for (int i = 0; i < walk.cameCount; i++) {
                int block = at(walk.came, i);
                if (at(layer, block) == l) {
                    putPoint(l, now, block);
                    now++;
                }
            }
            for (int e = 0; e < edgeCount; e++) {
                if (walk.draws(e) && top(e) < l && l < bottom(e)) {
                    putPoint(l, now, pointOn(e, l));
                    now++;
                }
            }
            return now;
        }

        private void putPoint(int l, int index, int point) {
            put(order, index, point);
            put(place, point, index - at(start, l));
        }

        int sizeOf(int l) {
            return at(start, l + 1) - at(start, l);
        }

        int shownAt(int l, int spot) {
            int point = at(order, at(start, l) + spot);
            return point < MOST ? point : -1 - at(edgeOf, point);
        }

        int placeOfBlock(int block) {
            return at(layer, block) < 0 ? -1 : at(place, block);
        }

        int bendCount(int e) {
            return walk.draws(e) ? bottom(e) - top(e) - 1 : -1;
        }

        int placeOfBend(int e, int bend) {
            return at(place, at(firstBend, e) + bend);
        }

        double meanSpan() {
            int many = 0;
            int total = 0;
            for (int e = 0; e < edgeCount; e++) {
                if (walk.draws(e)) {
                    many++;
                    total += bottom(e) - top(e);
                }
            }
            return many > 0 ? (double) total / many : 0.0;
        }

        /** The point of an edge in a layer that it goes through, or where it begins or ends. */
        private int pointOn(int e, int l) {
            if (l == top(e)) {
                return at(walk.upper, e);
            }
            if (l == bottom(e)) {
                return at(walk.lower, e);
            }
            return at(firstBend, e) + l - top(e) - 1;
        }

        private boolean leaves(int e, int l) {
            return walk.draws(e) && top(e) <= l && l < bottom(e);
        }

        int countCrossings() {
            int many = 0;
            for (int l = 0; l < layerCount - 1; l++) {
                many += crossingsUnder(l);
            }
            return many;
        }

        private int crossingsUnder(int l) {
            int count = 0;
            for (int e = 0; e < edgeCount; e++) {
                if (leaves(e, l)) {
                    put(above, count, at(place, pointOn(e, l)));
                    put(below, count, at(place, pointOn(e, l + 1)));
                    count++;
                }
            }
            int many = 0;
            for (int i = 0; i < count; i++) {
                for (int j = 0; j < i; j++) {
                    if ((at(above, i) - at(above, j)) * (at(below, i) - at(below, j)) < 0) {
                        many++;
                    }
                }
            }
            return many;
        }

        void sweepOften(int many) {
            for (int i = 0; i < many; i++) {
                boolean down = (sweeps & 1) == 0;
                for (int k = 1; k < layerCount; k++) {
                    if (down) {
                        arrange(k, k - 1);
                    } else {
                        arrange(layerCount - 1 - k, layerCount - k);
                    }
                }
                sweeps++;
            }
        }

        int tryOut(int many) {
            int sweptBefore = sweeps;
            int all = at(start, layerCount);
            for (int i = 0; i < all; i++) {
                put(kept, i, at(order, i));
            }
            sweepOften(many);
            int crossed = countCrossings();
            for (int l = 0; l < layerCount; l++) {
                for (int i = at(start, l); i < at(start, l + 1); i++) {
                    putPoint(l, i, at(kept, i));
                }
            }
            sweeps = sweptBefore;
            return crossed;
        }

        /** Orders a layer by another one; points with the same mean stay as they were. */
        private void arrange(int l, int other) {
            int base = at(start, l);
            int size = sizeOf(l);
            weigh(l, other, size);
            for (int i = 1; i < size; i++) {
                int point = at(order, base + i);
                int spot = i;
                while (spot > 0 && isAhead(point, at(order, base + spot - 1))) {
                    put(order, base + spot, at(order, base + spot - 1));
                    spot--;
                }
                put(order, base + spot, point);
            }
            for (int i = 0; i < size; i++) {
                putPoint(l, base + i, at(order, base + i));
            }
        }

        /** Fills sum and lines, by the places of the layer before it is ordered anew. */
        private void weigh(int l, int other, int size) {
            for (int i = 0; i < size; i++) {
                put(sum, i, 0);
                put(lines, i, 0);
            }
            int over = Math.min(l, other);
            for (int e = 0; e < edgeCount; e++) {
                if (leaves(e, over)) {
                    int spot = at(place, pointOn(e, l));
                    put(sum, spot, at(sum, spot) + at(place, pointOn(e, other)));
                    put(lines, spot, at(lines, spot) + 1);
                }
            }
            for (int i = 0; i < size; i++) {
                if (at(lines, i) == 0) {
                    put(sum, i, i);
                    put(lines, i, 1);
                }
            }
        }

        /** Compares the means crosswise, since a quotient would be rounded. */
        private boolean isAhead(int point, int other) {
            int p = at(place, point);
            int o = at(place, other);
            return at(sum, p) * at(lines, o) < at(sum, o) * at(lines, p);
        }
    }
}
