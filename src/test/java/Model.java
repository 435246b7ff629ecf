import java.util.ArrayList;
import java.util.Arrays;
import java.util.HashMap;
import java.util.HashSet;
import java.util.List;
import java.util.Map;
import java.util.Set;
import java.util.TreeMap;
import java.util.TreeSet;

/**
 * The document once more, said as naively as it goes, with lists and sets and without any care for
 * speed: what OrielChart answers is compared with it. It takes right arguments only.
 */
final class Model {
    static final int OUT = -1;

    final List<int[]> code = new ArrayList<>();
    List<List<Integer>> blocks;
    int[] home;
    List<int[]> edges;
    Set<Integer> reached;
    boolean[][] dominates;
    List<Set<Integer>> loops;
    List<int[]> steps;
    int[] ends;
    int nodesLeft;
    List<Integer> came;
    int[] upper;
    int[] lower;
    int[] layer;
    List<List<String>> orders;
    int swept;

    Model() {
        renew();
    }

    /** Code that is there from the first: each instruction with its kind and its target. */
    Model(int[][] instructions) {
        for (int[] i : instructions) {
            code.add(new int[] {i[0], i[1], -1, 0});
        }
        renew();
    }

    // ---- code

    int insert(int place, int kind, int target) {
        for (int[] i : code) {
            if (i[1] > place && i[1] != 40) {
                i[1]++;
            }
        }
        code.add(place, new int[] {kind, kind == 1 || kind == 2 ? target : 0, -1, 0});
        renew();
        return code.size();
    }

    int remove(int instruction) {
        code.remove(instruction);
        for (int[] i : code) {
            if (i[1] > instruction) {
                i[1]--;
            }
        }
        renew();
        return code.size();
    }

    int setTarget(int instruction, int target) {
        int before = code.get(instruction)[1];
        code.get(instruction)[1] = target;
        renew();
        return before;
    }

    int setUse(int instruction, int sets, int uses) {
        int[] i = code.get(instruction);
        int before = i[3];
        i[2] = sets;
        i[3] = uses;
        return before;
    }

    boolean jumps(int instruction) {
        return code.get(instruction)[0] == 1 || code.get(instruction)[0] == 2;
    }

    /** The instructions to which one goes from one, the next one first; OUT for the EXIT. */
    List<Integer> goals(int instruction) {
        List<Integer> all = new ArrayList<>();
        int kind = code.get(instruction)[0];
        if (kind == 0 || kind == 1) {
            all.add(instruction + 1);
        }
        if (kind == 1 || kind == 2) {
            all.add(code.get(instruction)[1]);
        }
        if (kind == 3) {
            all.add(OUT);
        }
        for (int k = 0; k < all.size(); k++) {
            if (all.get(k) >= code.size()) {
                all.set(k, OUT);
            }
        }
        return all;
    }

    // ---- blocks

    private void renew() {
        makeBlocks();
        makeEdges();
        reached = new TreeSet<>();
        if (!blocks.isEmpty()) {
            reached = ways(0, -2, edges);
            reached.remove(OUT);
        }
        findDominance();
        findLoops();
        reduce();
        draw();
    }

    private void makeBlocks() {
        Set<Integer> leaders = new HashSet<>();
        leaders.add(0);
        for (int i = 0; i < code.size(); i++) {
            if (jumps(i)) {
                leaders.add(code.get(i)[1]);
            }
            if (code.get(i)[0] != 0) {
                leaders.add(i + 1);
            }
        }
        blocks = new ArrayList<>();
        home = new int[code.size()];
        for (int i = 0; i < code.size(); i++) {
            if (leaders.contains(i)) {
                blocks.add(new ArrayList<>());
            }
            blocks.get(blocks.size() - 1).add(i);
            home[i] = blocks.size() - 1;
        }
    }

    private void makeEdges() {
        edges = new ArrayList<>();
        for (int b = 0; b < blocks.size(); b++) {
            List<Integer> block = blocks.get(b);
            List<Integer> known = new ArrayList<>();
            for (int goal : goals(block.get(block.size() - 1))) {
                int to = goal == OUT ? OUT : home[goal];
                if (!known.contains(to)) {
                    known.add(to);
                    edges.add(new int[] {b, to});
                }
            }
        }
    }

    /** Where one comes to from a block along some edges without going by another one. */
    private static Set<Integer> ways(int from, int without, List<int[]> along) {
        Set<Integer> seen = new TreeSet<>();
        if (from != without) {
            come(from, without, along, seen);
        }
        return seen;
    }

    private static void come(int at, int without, List<int[]> along, Set<Integer> seen) {
        seen.add(at);
        for (int[] e : along) {
            if (e[0] == at && e[1] != without && !seen.contains(e[1])) {
                come(e[1], without, along, seen);
            }
        }
    }

    // ---- who is ahead of whom

    private void findDominance() {
        dominates = new boolean[blocks.size()][blocks.size()];
        for (int d : reached) {
            Set<Integer> others = ways(0, d, edges);
            for (int b : reached) {
                dominates[d][b] = !others.contains(b);
            }
        }
    }

    boolean dominates(int one, int other) {
        return dominates[one][other];
    }

    int parentOf(int block) {
        for (int d : reached) {
            if (d != block && dominates(d, block)) {
                boolean nearest = true;
                for (int o : reached) {
                    if (o != block && dominates(o, block) && !dominates(o, d)) {
                        nearest = false;
                    }
                }
                if (nearest) {
                    return d;
                }
            }
        }
        return -1;
    }

    boolean comesBehind(int one, int other) {
        return reached.contains(one) && reached.contains(other)
                && ways(other, -2, edges).contains(OUT) && !ways(other, one, edges).contains(OUT);
    }

    boolean isBack(int edge) {
        int[] e = edges.get(edge);
        return e[1] != OUT && dominates(e[1], e[0]);
    }

    private void findLoops() {
        loops = new ArrayList<>();
        for (int h = 0; h < blocks.size(); h++) {
            Set<Integer> all = new TreeSet<>();
            for (int e = 0; e < edges.size(); e++) {
                if (isBack(e) && edges.get(e)[1] == h) {
                    all.add(h);
                    for (int b : reached) {
                        if (ways(b, h, edges).contains(edges.get(e)[0])) {
                            all.add(b);
                        }
                    }
                }
            }
            loops.add(all);
        }
    }

    Set<Integer> loop(int head) {
        return loops.get(head);
    }

    int loops() {
        int many = 0;
        for (int b = 0; b < blocks.size(); b++) {
            many += loop(b).isEmpty() ? 0 : 1;
        }
        return many;
    }

    int depthOf(int block) {
        int many = 0;
        for (int b = 0; b < blocks.size(); b++) {
            many += loop(b).contains(block) ? 1 : 0;
        }
        return many;
    }

    boolean isTame() {
        List<int[]> onward = new ArrayList<>();
        for (int e = 0; e < edges.size(); e++) {
            if (reached.contains(edges.get(e)[0]) && !isBack(e)) {
                onward.add(edges.get(e));
            }
        }
        for (int[] e : onward) {
            if (ways(e[1], -2, onward).contains(e[0])) {
                return false;
            }
        }
        return true;
    }

    private boolean isUsed(int instruction, int variable, Set<Integer> seen) {
        if (instruction == OUT || !seen.add(instruction)) {
            return false;
        }
        int[] i = code.get(instruction);
        if ((i[3] >> variable & 1) == 1) {
            return true;
        }
        return i[2] != variable && isUsedBehind(instruction, variable, seen);
    }

    private boolean isUsedBehind(int instruction, int variable, Set<Integer> seen) {
        for (int goal : goals(instruction)) {
            if (isUsed(goal, variable, seen)) {
                return true;
            }
        }
        return false;
    }

    int liveIn(int block) {
        int set = 0;
        for (int v = 0; v < 8 && reached.contains(block); v++) {
            set += isUsed(blocks.get(block).get(0), v, new HashSet<>()) ? 1 << v : 0;
        }
        return set;
    }

    int vain() {
        int many = 0;
        for (int b : reached) {
            for (int i : blocks.get(b)) {
                int variable = code.get(i)[2];
                if (variable >= 0 && !isUsedBehind(i, variable, new HashSet<>())) {
                    many++;
                }
            }
        }
        return many;
    }

    int windings() {
        int many = 0;
        for (int[] e : edges) {
            many += reached.contains(e[0]) ? 1 : 0;
        }
        return code.isEmpty() ? 0 : many - reached.size() - 1 + 2;
    }

    // ---- reducing

    private void reduce() {
        TreeMap<Integer, Set<Integer>> nodes = new TreeMap<>();
        ends = new int[blocks.size()];
        Arrays.fill(ends, -1);
        for (int b : reached) {
            nodes.put(b, new TreeSet<>());
            ends[b] = b;
        }
        for (int[] e : edges) {
            if (reached.contains(e[0])) {
                nodes.get(e[0]).add(e[1]);
            }
        }
        steps = new ArrayList<>();
        while (step(nodes)) {
            nodesLeft = 0;
        }
        nodesLeft = nodes.size();
    }

    private boolean step(TreeMap<Integer, Set<Integer>> nodes) {
        for (int a : nodes.keySet()) {
            List<Integer> out = new ArrayList<>(nodes.get(a));
            if (out.contains(a)) {
                steps.add(new int[] {0, a});
                nodes.get(a).remove(a);
                return true;
            }
            if (out.size() == 1 && isInner(nodes, a, out.get(0))) {
                steps.add(new int[] {1, a});
                boolean circle = nodes.get(out.get(0)).contains(a);
                int name = unite(nodes, List.of(a, out.get(0)));
                if (circle) {
                    nodes.get(name).add(name);
                }
                return true;
            }
            if (out.size() != 2) {
                continue;
            }
            for (int k = 0; k < 2; k++) {
                int b = out.get(k);
                int c = out.get(1 - k);
                if (isInner(nodes, a, b) && nodes.get(b).equals(Set.of(c))) {
                    steps.add(new int[] {2, a});
                    unite(nodes, List.of(a, b));
                    return true;
                }
            }
            int b = out.get(0);
            int c = out.get(1);
            if (isInner(nodes, a, b) && isInner(nodes, a, c) && nodes.get(b).size() == 1
                    && nodes.get(b).equals(nodes.get(c)) && !nodes.get(b).contains(a)
                    && !nodes.get(b).contains(b) && !nodes.get(b).contains(c)) {
                steps.add(new int[] {3, a});
                unite(nodes, List.of(a, b, c));
                return true;
            }
        }
        return false;
    }

    /** Whether a node can be taken into another one: only from that one an edge goes to it. */
    private boolean isInner(Map<Integer, Set<Integer>> nodes, int from, int node) {
        if (node == OUT || node == ends[0]) {
            return false;
        }
        for (int n : nodes.keySet()) {
            if (n != from && nodes.get(n).contains(node)) {
                return false;
            }
        }
        return true;
    }

    private int unite(TreeMap<Integer, Set<Integer>> nodes, List<Integer> parts) {
        Set<Integer> members = new TreeSet<>(parts);
        int name = members.iterator().next();
        Set<Integer> out = new TreeSet<>();
        for (int m : members) {
            out.addAll(nodes.remove(m));
        }
        out.removeAll(members);
        for (Set<Integer> other : nodes.values()) {
            if (other.removeAll(members)) {
                other.add(name);
            }
        }
        nodes.put(name, out);
        for (int b = 0; b < ends.length; b++) {
            if (members.contains(ends[b])) {
                ends[b] = name;
            }
        }
        return name;
    }

    // ---- drawing

    private void draw() {
        swept = 0;
        came = new ArrayList<>();
        upper = new int[edges.size()];
        lower = new int[edges.size()];
        Arrays.fill(upper, -1);
        layer = new int[blocks.size()];
        Arrays.fill(layer, -1);
        orders = new ArrayList<>();
        if (blocks.isEmpty()) {
            return;
        }
        goThrough(0, new ArrayList<>());
        for (int b : reached) {
            layer[b] = longest(b, new HashMap<>());
            while (orders.size() <= layer[b]) {
                orders.add(new ArrayList<>());
            }
        }
        for (int b : came) {
            orders.get(layer[b]).add("b" + b);
        }
        for (int e = 0; e < upper.length; e++) {
            for (int l = 1; upper[e] >= 0 && l < orders.size(); l++) {
                if (layer[upper[e]] < l && l < layer[lower[e]]) {
                    orders.get(l).add("e" + e);
                }
            }
        }
    }

    private void goThrough(int block, List<Integer> going) {
        came.add(block);
        going.add(block);
        for (int e = 0; e < edges.size(); e++) {
            int to = edges.get(e)[1];
            if (edges.get(e)[0] != block || to == OUT || to == block) {
                continue;
            }
            boolean turned = going.contains(to);
            upper[e] = turned ? to : block;
            lower[e] = turned ? block : to;
            if (!came.contains(to)) {
                goThrough(to, going);
            }
        }
        going.remove(Integer.valueOf(block));
    }

    private int longest(int block, Map<Integer, Integer> known) {
        if (known.containsKey(block)) {
            return known.get(block);
        }
        int most = 0;
        for (int e = 0; e < upper.length; e++) {
            if (upper[e] >= 0 && lower[e] == block) {
                most = Math.max(most, longest(upper[e], known) + 1);
            }
        }
        known.put(block, most);
        return most;
    }

    boolean isDrawn(int edge) {
        return upper[edge] >= 0;
    }

    boolean isTurned(int edge) {
        return isDrawn(edge) && upper[edge] == edges.get(edge)[1];
    }

    int bends(int edge) {
        return isDrawn(edge) ? layer[lower[edge]] - layer[upper[edge]] - 1 : -1;
    }

    int placeOf(int block) {
        return layer[block] < 0 ? -1 : orders.get(layer[block]).indexOf("b" + block);
    }

    int bendAt(int edge, int bend) {
        return orders.get(layer[upper[edge]] + 1 + bend).indexOf("e" + edge);
    }

    int pointAt(int l, int place) {
        String point = orders.get(l).get(place);
        int number = Integer.parseInt(point.substring(1));
        return point.charAt(0) == 'b' ? number : -1 - number;
    }

    private String pointOn(int edge, int l) {
        if (layer[upper[edge]] == l) {
            return "b" + upper[edge];
        }
        return layer[lower[edge]] == l ? "b" + lower[edge] : "e" + edge;
    }

    /** The lines from a layer to the next one, each with its two points. */
    private List<String[]> lines(int l) {
        List<String[]> all = new ArrayList<>();
        for (int e = 0; e < upper.length; e++) {
            if (isDrawn(e) && layer[upper[e]] <= l && layer[lower[e]] >= l + 1) {
                all.add(new String[] {pointOn(e, l), pointOn(e, l + 1)});
            }
        }
        return all;
    }

    int crossings() {
        int many = 0;
        for (int l = 0; l + 1 < orders.size(); l++) {
            List<String[]> lines = lines(l);
            for (String[] one : lines) {
                for (String[] other : lines) {
                    // Each pair is met twice, and counted where the one is on the left above.
                    if (orders.get(l).indexOf(one[0]) < orders.get(l).indexOf(other[0])
                            && orders.get(l + 1).indexOf(one[1])
                                    > orders.get(l + 1).indexOf(other[1])) {
                        many++;
                    }
                }
            }
        }
        return many;
    }

    int sweep(int many) {
        for (int i = 0; i < many; i++) {
            if (swept % 2 == 0) {
                for (int l = 1; l < orders.size(); l++) {
                    arrange(l, l - 1);
                }
            } else {
                for (int l = orders.size() - 2; l >= 0; l--) {
                    arrange(l, l + 1);
                }
            }
            swept++;
        }
        return crossings();
    }

    int wouldCross(int many) {
        List<List<String>> keptOrders = new ArrayList<>();
        for (List<String> order : orders) {
            keptOrders.add(new ArrayList<>(order));
        }
        int keptSwept = swept;
        int crossed = sweep(many);
        orders = keptOrders;
        swept = keptSwept;
        return crossed;
    }

    private void arrange(int l, int other) {
        Map<String, long[]> means = new HashMap<>();
        List<String[]> lines = lines(Math.min(l, other));
        for (String point : orders.get(l)) {
            long sum = 0;
            long count = 0;
            for (String[] line : lines) {
                String mine = l < other ? line[0] : line[1];
                String there = l < other ? line[1] : line[0];
                if (mine.equals(point)) {
                    sum += orders.get(other).indexOf(there);
                    count++;
                }
            }
            means.put(point, count > 0
                    ? new long[] {sum, count} : new long[] {orders.get(l).indexOf(point), 1});
        }
        orders.get(l).sort((p, q) -> Long.compare(
                means.get(p)[0] * means.get(q)[1], means.get(q)[0] * means.get(p)[1]));
    }

    double meanLength() {
        int many = 0;
        int total = 0;
        for (int e = 0; e < upper.length; e++) {
            if (isDrawn(e)) {
                many++;
                total += layer[lower[e]] - layer[upper[e]];
            }
        }
        return many == 0 ? 0 : total * 1.0 / many;
    }

    long digest() {
        List<Long> all = new ArrayList<>();
        add(all, code.size());
        for (int i = 0; i < code.size(); i++) {
            add(all, code.get(i)[0], code.get(i)[1], home[i]);
        }
        add(all, blocks.size());
        for (int b = 0; b < blocks.size(); b++) {
            add(all, blocks.get(b).get(0), reached.contains(b) ? 1 : 0, parentOf(b), loop(b).size(),
                    depthOf(b), liveIn(b), ends[b], layer[b], placeOf(b));
        }
        add(all, edges.size());
        for (int e = 0; e < edges.size(); e++) {
            add(all, edges.get(e)[0], edges.get(e)[1], isBack(e) ? 1 : 0, isTurned(e) ? 1 : 0,
                    bends(e));
        }
        add(all, loops(), isTame() ? 1 : 0, vain(), windings());
        add(all, steps.size());
        for (int[] step : steps) {
            add(all, step[0], step[1]);
        }
        add(all, nodesLeft, nodesLeft == 1 ? 1 : 0);
        add(all, orders.size());
        for (int l = 0; l < orders.size(); l++) {
            add(all, orders.get(l).size());
            for (int i = 0; i < orders.get(l).size(); i++) {
                add(all, pointAt(l, i));
            }
        }
        add(all, crossings(), swept);
        long d = 2557;
        for (long v : all) {
            d = d * 31 + v;
        }
        return d;
    }

    private static void add(List<Long> all, long... values) {
        for (long v : values) {
            all.add(v);
        }
    }
}
