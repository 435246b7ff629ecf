/** Promises 33 to 46: layers, bends, orders, sweeps, crossings, and the checksum. */
public final class DrawingTest {
    /** Two blocks over two others, with one pair of lines that cross; 4 is not reached. */
    private static final String CROSSED = "I3 I5 S G2 P S";

    public static void main(String[] args) {
        layers();
        turning();
        bends();
        firstOrder();
        sweepsAreKept();
        sweepsUp();
        sweepsWithoutCode();
        meanLength();
        digest();
        wrongNumbers();
        Check.finish();
    }

    private static void is(String code, String layers) {
        Check.same(code + ": layers", Check.layers(Check.chart(code)), layers);
    }

    private static void layers() {
        is("", "");
        is("P", "0");
        is("I3 P G4 P S", "0 | 1 2 | 3");
        // The longest way tells the layer, not the shortest.
        is("I2 P S", "0 | 1 e1 | 2");
        is("S S", "0");
        OrielChart x = Check.chart("I3 P G4 P S");
        Check.same("layers()", x.layers(), 3);
        Check.same("layerOf", Check.row(4, x::layerOf), "0 1 1 2");
        Check.same("placeOf", Check.row(4, x::placeOf), "0 0 1 0");
        OrielChart away = Check.chart("S S");
        Check.same("not reached: layerOf", away.layerOf(1), -1);
        Check.same("not reached: placeOf", away.placeOf(1), -1);
    }

    private static void turning() {
        OrielChart x = Check.chart("I3 P G0 S");
        Check.same("while: isTurned", Check.row(4, e -> x.isTurned(e) ? 1 : 0), "0 0 1 0");
        Check.same("while: bends", Check.row(4, x::bends), "0 0 0 -1");
        Check.same("while: layers", Check.layers(x), "0 | 1 2");
        OrielChart self = Check.chart("P P I1 S");
        Check.same("one to itself: edges", Check.edges(self), "0>1 1>2 1>1 2>x");
        Check.same("one to itself: isTurned(2)", self.isTurned(2), false);
        Check.same("one to itself: bends(2)", self.bends(2), -1);
        // Wild, 2 and 1: the first way goes 0, 1, 2, so 2 to 1 is turned, though not BACK.
        OrielChart wild = Check.chart("I2 G2 I1 S");
        Check.same("wild: isTurned", Check.row(6, e -> wild.isTurned(e) ? 1 : 0), "0 0 0 0 1 0");
        OrielChart away = Check.chart("S G1");
        Check.same("not reached: isTurned(1)", away.isTurned(1), false);
        Check.same("not reached: bends(1)", away.bends(1), -1);
    }

    private static void bends() {
        OrielChart x = Check.chart("P G2 G3 I1 S");
        Check.same("turned: edges", Check.edges(x), "0>1 1>2 2>3 3>4 3>1 4>x");
        Check.same("turned: layers", Check.layers(x), "0 | 1 | 2 e4 | 3 | 4");
        Check.same("turned: bends", Check.row(6, x::bends), "0 0 0 0 1 -1");
        Check.same("turned: bendAt(4, 0)", x.bendAt(4, 0), 1);
        Check.same("turned: pointAt(2, 1)", x.pointAt(2, 1), -5);

        OrielChart far = Check.chart("I4 I4 I4 P S");
        Check.same("far: edges", Check.edges(far), "0>1 0>4 1>2 1>4 2>3 2>4 3>4 4>x");
        Check.same("far: layers", Check.layers(far), "0 | 1 e1 | 2 e1 e3 | 3 e1 e3 e5 | 4");
        Check.same("far: bends", Check.row(8, far::bends), "0 3 0 2 0 1 0 -1");
        Check.same("far: bendAt of 3", Check.row(2, k -> far.bendAt(3, k)), "2 2");
        Check.same("far: crossings()", far.crossings(), 3);
        Check.same("far: sweep(1)", far.sweep(1), 0);
        Check.same("far: swept once", Check.layers(far), "0 | 1 e1 | 2 e3 e1 | 3 e5 e3 e1 | 4");
        Check.same("far: bendAt of 3 then", Check.row(2, k -> far.bendAt(3, k)), "1 2");

        OrielChart most = new OrielChart();
        for (int i = 0; i < 40; i++) {
            most.insert(i, 1, 0);
        }
        for (int i = 0; i < 40; i++) {
            most.setTarget(i, i < 20 ? 39 : 0);
        }
        Check.same("most: layers()", most.layers(), 40);
        Check.same("most: bends of the first", most.bends(1), 38);
        Check.same("most: bendAt of the first", most.bendAt(1, 37), 1);
        Check.same("most: bends of the last", most.bends(79 - 2), 37);
        Check.same("most: points(20)", most.points(20), 1 + 20 + 19);
        Check.same("most: points(39)", most.points(39), 1);
        Check.same("most: pointAt(39, 0)", most.pointAt(39, 0), 39);
        long digest = most.digest();
        most.wouldCross(20);
        Check.same("most: wouldCross() changes nothing", most.digest(), digest);
    }

    private static void firstOrder() {
        // One comes to 3 ahead of 1.
        is("G2 S I1 S", "0 | 2 | 3 1");
        OrielChart x = Check.chart("G2 S I1 S");
        Check.same("placeOf", Check.row(4, x::placeOf), "0 1 0 0");
        // Blocks come ahead of bends, though one comes to 4 last.
        is("I3 I4 I3 S S", "0 | 1 e1 | 2 4 e1 | 3");
    }

    private static void sweepsAreKept() {
        OrielChart x = Check.chart(CROSSED);
        Check.same("at first", Check.layers(x), "0 | 1 3 | 2 5");
        Check.same("crossings() at first", x.crossings(), 1);
        Check.same("wouldCross(1)", x.wouldCross(1), 0);
        Check.same("wouldCross(1) changes nothing", Check.layers(x), "0 | 1 3 | 2 5");
        Check.same("wouldCross(1) is not swept", x.swept(), 0);
        Check.same("crossings() still", x.crossings(), 1);
        Check.same("sweep(1)", x.sweep(1), 0);
        Check.same("after sweep(1)", Check.layers(x), "0 | 1 3 | 5 2");
        Check.same("placeOf then", Check.row(6, x::placeOf), "0 0 1 1 -1 0");
        Check.same("sweep(4)", x.sweep(4), 0);
        Check.same("swept()", x.swept(), 5);
        x.setUse(0, 0, 1);
        Check.same("setUse() keeps the drawing", Check.layers(x), "0 | 1 3 | 5 2");
        Check.same("setUse() keeps swept()", x.swept(), 5);
        x.setTarget(0, 3);
        Check.same("setTarget() begins anew", Check.layers(x), "0 | 1 3 | 2 5");
        Check.same("swept() then", x.swept(), 0);
        x.sweep(1);
        x.insert(6, 0, 0);
        Check.same("insert() begins anew", Check.layers(x), "0 | 1 3 | 2 5");
        x.sweep(20);
        x.remove(6);
        Check.same("remove() begins anew", Check.layers(x), "0 | 1 3 | 2 5");
        Check.same("swept() in the end", x.swept(), 0);
    }

    private static void sweepsUp() {
        // Going up, 4 has no line and keeps 1 as its mean, which lets the bend of 1 go ahead of it.
        OrielChart x = Check.chart("I3 I4 I3 S S");
        Check.same("leaf: crossings()", x.crossings(), 0);
        Check.same("leaf: sweep(1)", x.sweep(1), 0);
        Check.same("leaf: down", Check.layers(x), "0 | 1 e1 | 2 4 e1 | 3");
        Check.same("leaf: wouldCross(1) goes up", x.wouldCross(1), 1);
        Check.same("leaf: wouldCross(2) goes down again", x.wouldCross(2), 0);
        Check.same("leaf: sweep(1) goes up", x.sweep(1), 1);
        Check.same("leaf: up", Check.layers(x), "0 | 1 e1 | 2 e1 4 | 3");

        // 1 and 2 have two lines between them. Up, the mean of 2 is 5/4, behind that of 6, 1.
        OrielChart y = Check.chart("G2 I0 I1 I0 I2");
        Check.same("twice: edges", Check.edges(y), "0>2 1>2 1>0 2>3 2>1 3>4 3>0 4>x 4>2");
        Check.same("twice: isTurned", Check.row(9, e -> y.isTurned(e) ? 1 : 0), "0 1 1 0 0 0 1 0 1");
        Check.same("twice: at first", Check.layers(y), "0 | 2 e2 e6 | 3 1 e8 | 4");
        Check.same("twice: crossings()", y.crossings(), 5);
        Check.same("twice: sweep(1)", y.sweep(1), 1);
        Check.same("twice: down", Check.layers(y), "0 | 2 e2 e6 | e8 1 3 | 4");
        Check.same("twice: wouldCross(2)", y.wouldCross(2), 0);
        Check.same("twice: wouldCross(2) changes nothing", Check.layers(y), "0 | 2 e2 e6 | e8 1 3 | 4");
        Check.same("twice: sweep(1) goes up", y.sweep(1), 1);
        Check.same("twice: up", Check.layers(y), "0 | e6 2 e2 | e8 3 1 | 4");
        Check.same("twice: sweep(1) goes down", y.sweep(1), 0);
        Check.same("twice: down again", Check.layers(y), "0 | e6 2 e2 | 3 e8 1 | 4");
    }

    private static void sweepsWithoutCode() {
        OrielChart x = new OrielChart();
        Check.same("sweep(20) without code", x.sweep(20), 0);
        Check.same("wouldCross(20) without code", x.wouldCross(20), 0);
        Check.same("swept() without code", x.swept(), 20);
    }

    private static void meanLength() {
        Check.same("no code", new OrielChart().meanLength(), 0.0);
        Check.same("no edge that is drawn", Check.chart("G0").meanLength(), 0.0);
        Check.same("diamond", Check.chart("I3 P G4 P S").meanLength(), 1.0);
        Check.same("one bend", Check.chart("I2 P S").meanLength(), 4.0 / 3.0);
        Check.same("turned", Check.chart("P G2 G3 I1 S").meanLength(), 6.0 / 5.0);
    }

    /** The checksum from the other answers, as the document tells it. */
    private static long sum(OrielChart x) {
        long[] d = {2557};
        mix(d, x.instructions());
        for (int i = 0; i < x.instructions(); i++) {
            mix(d, x.kindOf(i), x.targetOf(i), x.blockOf(i));
        }
        mix(d, x.blocks());
        for (int b = 0; b < x.blocks(); b++) {
            mix(d, x.firstOf(b), x.isReached(b) ? 1 : 0, x.parentOf(b), x.loopSize(b), x.depthOf(b),
                    x.liveIn(b), x.endsIn(b), x.layerOf(b), x.placeOf(b));
        }
        mix(d, x.edges());
        for (int e = 0; e < x.edges(); e++) {
            mix(d, x.edgeFrom(e), x.edgeTo(e), x.isBack(e) ? 1 : 0, x.isTurned(e) ? 1 : 0, x.bends(e));
        }
        mix(d, x.loops(), x.isTame() ? 1 : 0, x.vain(), x.windings(), x.steps());
        for (int s = 0; s < x.steps(); s++) {
            mix(d, x.ruleOf(s), x.nodeOf(s));
        }
        mix(d, x.left(), x.isNeat() ? 1 : 0, x.layers());
        for (int l = 0; l < x.layers(); l++) {
            mix(d, x.points(l));
            for (int i = 0; i < x.points(l); i++) {
                mix(d, x.pointAt(l, i));
            }
        }
        mix(d, x.crossings(), x.swept());
        return d[0];
    }

    private static void mix(long[] d, long... values) {
        for (long v : values) {
            d[0] = d[0] * 31 + v;
        }
    }

    private static void digest() {
        Check.same("digest() of none", new OrielChart().digest(), -6562806086967277532L);
        for (String code : new String[] {"P", "G0", CROSSED, "P I6 P I2 G1 P S", "I2 G2 I1 S"}) {
            // Asked first, so that it may not lean on what other calls have worked out.
            OrielChart x = Check.chart(code);
            x.setUse(0, 1, 6);
            Check.same(code + ": digest()", x.digest(), sum(x));
            OrielChart y = Check.chart(code);
            y.sweep(3);
            Check.same(code + ": digest() after sweep(3)", y.digest(), sum(y));
            y.setUse(0, 1, 6);
            Check.same(code + ": digest() after setUse()", y.digest(), sum(y));
        }
    }

    private static void wrongNumbers() {
        OrielChart x = Check.chart("I2 P S");
        for (int k : new int[] {-1, 3, Integer.MAX_VALUE, Integer.MIN_VALUE}) {
            Check.noPlace("layerOf(" + k + ")", () -> x.layerOf(k));
            Check.noPlace("points(" + k + ")", () -> x.points(k));
            Check.noPlace("pointAt(" + k + ", 0)", () -> x.pointAt(k, 0));
            Check.noPlace("pointAt(1, " + k + ")", () -> x.pointAt(1, k));
            Check.noPlace("placeOf(" + k + ")", () -> x.placeOf(k));
            Check.noPlace("bendAt(1, " + k + ")", () -> x.bendAt(1, k));
        }
        for (int k : new int[] {-1, 4, Integer.MAX_VALUE, Integer.MIN_VALUE}) {
            Check.noPlace("isTurned(" + k + ")", () -> x.isTurned(k));
            Check.noPlace("bends(" + k + ")", () -> x.bends(k));
            Check.noPlace("bendAt(" + k + ", 0)", () -> x.bendAt(k, 0));
        }
        Check.noPlace("pointAt(1, 2)", () -> x.pointAt(1, 2));
        Check.noPlace("bendAt(1, 1)", () -> x.bendAt(1, 1));
        Check.noPlace("bendAt of an EDGE without bends", () -> x.bendAt(0, 0));
        Check.noPlace("bendAt of an EDGE that is not drawn", () -> x.bendAt(3, 0));
        for (int k : new int[] {0, -1, 21, Integer.MAX_VALUE, Integer.MIN_VALUE}) {
            Check.noArgument("sweep(" + k + ")", () -> x.sweep(k));
            Check.noArgument("wouldCross(" + k + ")", () -> x.wouldCross(k));
        }
        Check.same("what was refused is not swept", x.swept(), 0);
    }
}
