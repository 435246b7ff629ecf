import java.math.BigInteger;

/** The sentences on drawing, and of the promises 33 to 46. */
final class DrawingSentences {
    private static final String PART = "5. Drawing";
    private static final int LEAST = Integer.MIN_VALUE;
    private static final int MOST = Integer.MAX_VALUE;

    /** Two blocks over two others, with one pair of lines that cross; 4 is not reached. */
    private static final String CROSSED = "I3 I5 S G2 P S";
    /** Many bends: of the EDGE 1 in 1, 2 and 3, of 3 in 2, of 6 in 1 and 2, of 8 in 2 and 3. */
    private static final String BENT = "I4 I3 P I0 I1";

    private final Document document;
    private final OrielChart none = new OrielChart();

    DrawingSentences(Document document) {
        this.document = document;
    }

    /** As many layers as can be, 0 to 19 with an EDGE to the last one, 20 to 39 with one to 0. */
    private static OrielChart full() {
        OrielChart x = BlocksSentences.ifs(40);
        for (int i = 0; i < 20; i++) {
            x.setTarget(i, 39);
        }
        return x;
    }

    void all() {
        document.test(
                this::goingThrough, this::turning, this::layers, this::bends, this::firstOrder,
                this::sweepsDown, this::means, this::sweepsUp, this::sweepsByCalls,
                this::sweepsAreKept, this::lines, this::askedLayers, this::askedPoints,
                this::askedBends, this::crossings, this::sweep, this::wouldCross, this::swept,
                this::meanLength, this::checksum, this::orderOfTheChecksum);
    }

    private static void is(String code, String layers) {
        Check.same(code + ": layers", Check.layers(Check.chart(code)), layers);
    }

    private static String turned(String code) {
        OrielChart x = Check.chart(code);
        return Check.row(x.edges(), e -> x.isTurned(e) ? 1 : 0);
    }

    /** What the layers are at first, and after each sweep. */
    private static void sweeps(String code, String... layers) {
        OrielChart x = Check.chart(code);
        for (int k = 0; k < layers.length; k++) {
            Check.same(code + ": layers, swept " + k, Check.layers(x), layers[k]);
            x.sweep(1);
        }
    }

    private void goingThrough() {
        document.says(PART,
                "One goes through the graph (without the EXIT) from the BLOCK 0:", () -> {
            is("P", "0");
            is("I40 P", "0 | 1");
            is("S P", "0");
        });

        document.says(PART, "along the EDGES of a BLOCK, the first one first", () -> {
            is("G2 S I1 S", "0 | 2 | 3 1");
        });

        document.says(PART, "each to a BLOCK where one was not yet", () -> {
            is("I2 P S", "0 | 1 e1 | 2");
            Check.same("0 again", turned("I2 G0 S"), "0 0 1 0");
        });

        document.says(PART, "going on from there, ahead of the next EDGE.", () -> {
            // By 1 one comes to 2 first, though 0 goes to 3 itself.
            is("I3 I3 S S", "0 | 1 e1 | 2 3");
        });
    }

    private void turning() {
        document.says(PART, "An EDGE to a BLOCK from which one is still going is TURNED:", () -> {
            Check.same("to 0", turned("I3 P G0 S"), "0 0 1 0");
            Check.same("from far", turned("I1 I2 G0"), "0 0 1");
            Check.same("not BACK, but turned", turned("I2 G2 I1 S"), "0 0 0 0 1 0");
            Check.same("to one that one has left", turned("I2 S G1"), "0 0 0 0");
            Check.same("to the EXIT", turned("P"), "0");
        });

        document.says(PART, "it is drawn from the one to which it goes", () -> {
            is("P G2 G3 I1 S", "0 | 1 | 2 e4 | 3 | 4");
            is("G1 G2 G0", "0 | 1 e2 | 2");
        });

        document.says(PART, "one from a BLOCK to itself is not drawn.", () -> {
            OrielChart x = Check.chart("P P I1 S");
            Check.same("bends", Check.row(4, x::bends), "0 0 -1 -1");
            Check.same("isTurned(2)", x.isTurned(2), false);
            Check.same("layers", Check.layers(x), "0 | 1 | 2");
            Check.same("meanLength()", x.meanLength(), 1.0);
            is("G0", "0");
        });
    }

    private void layers() {
        document.says(PART,
                "how many EDGES, as they are drawn, are on the longest way", () -> {
            is("I2 P S", "0 | 1 e1 | 2");
            is("I2 S G1", "0 | 2 e0 | 1");
            is("I3 S G1 G2", "0 | 3 e0 | 2 e0 | 1");
            is("I3 P G4 P S", "0 | 1 2 | 3");
            // 4 to 1 is drawn from 1, so it makes 1 no deeper.
            is("G1 G2 G3 G4 I1 S", "0 | 1 | 2 e5 | 3 e5 | 4 | 5");
            Check.same("the last of forty", full().layerOf(39), 39);
        });
    }

    private void bends() {
        OrielChart x = Check.chart("I2 P S");
        document.says(PART,
                "to one more than 1 greater has a BEND in each LAYER in between.", () -> {
            Check.same("one greater", x.bends(0), 0);
            Check.same("two greater", x.bends(1), 1);
            Check.same("one greater, at the end", x.bends(2), 0);
            OrielChart full = full();
            Check.same("39 greater", full.bends(1), 38);
            for (int l = 1; l < 39; l++) {
                Check.same("a BLOCK in " + l, full.pointAt(l, 0), l);
                Check.same("a BEND in " + l, full.pointAt(l, 1), -2);
            }
        });

        document.says(PART, "POINTS are BLOCKS and BENDS.", () -> {
            Check.same("points", Check.row(3, x::points), "1 2 1");
        });
    }

    private void firstOrder() {
        document.says(PART, "A LAYER has its POINTS in an ORDER:", () -> {
            is("I3 P G4 P S", "0 | 1 2 | 3");
        });

        document.says(PART, "at first BLOCKS, in the order in which one came to them", () -> {
            is("G2 S I1 S", "0 | 2 | 3 1");
            is("I3 I3 S S", "0 | 1 e1 | 2 3");
        });

        document.says(PART, "then BENDS", () -> {
            is("I3 I4 I3 S S", "0 | 1 e1 | 2 4 e1 | 3");
        });

        document.says(PART, "by the numbers of their EDGES.", () -> {
            is("I2 I1 I0", "0 | 1 e1 e5 | 2");
            // One comes to the EDGE 5, from 3, ahead of the EDGE 1, from 1.
            is("G2 G5 I1 I5 P S", "0 | 2 | 3 1 | 4 e1 e5 | 5");
            // The bend of the turned one is in a LAYER where none of 1 was.
            is(BENT, "0 | 1 e1 e6 | 2 e1 e3 e6 e8 | 3 e1 e8 | 4");
        });
    }

    private void sweepsDown() {
        document.says(PART, "A SWEEP down goes through the LAYERS from 1 on:", () -> {
            sweeps("I2 I3 G2 P", "0 | 1 e1 | 2 3", "0 | 1 e1 | 3 2");
            sweeps("I4 I2 I0 I1", "0 | 1 e4 | 2 e6 | 3", "0 | 1 e4 | e6 2 | 3");
        });

        document.says(PART, "its POINTS are ordered anew by their MEAN, the smallest first", () -> {
            sweeps(CROSSED, "0 | 1 3 | 2 5", "0 | 1 3 | 5 2");
            sweeps("I2 P I1 I0", "0 | 1 e1 e6 | 2 e6 | 3", "0 | 1 e1 e6 | 2 e6 | 3");
            // The sum of the places of 1, in sweeping up, is the greater one, the mean is not.
            sweeps("I1 I3 I0 I1", "0 | 1 e4 | 2 e2 e6 | 3", "0 | 1 e4 | e2 e6 2 | 3",
                    "0 | 1 e4 | e2 e6 2 | 3");
        });

        document.says(PART, "those that are the same as they were", () -> {
            sweeps("I3 I2 I0", "0 | 1 e4 | 2", "0 | 1 e4 | 2", "0 | 1 e4 | 2");
            sweeps("I3 P G4 P S", "0 | 1 2 | 3", "0 | 1 2 | 3", "0 | 1 2 | 3");
        });
    }

    private void means() {
        document.says(PART, "the MEAN of a POINT (not cut)", () -> {
            // The mean of 2 is 1/2, that of the bend of 3 is 0.
            sweeps("I2 I3 I4 I0", "0 | 1 e1 e7 | 2 e3 e7 | 3", "0 | 1 e1 e7 | e3 2 e7 | 3");
        });

        document.says(PART,
                "is that of the places of the POINTS of the LAYER ahead to which lines go", () -> {
            sweeps("I3 I3 I1 P", "0 | 1 e1 | 2 e1 e3 | 3", "0 | 1 e1 | 2 e3 e1 | 3");
        });

        document.says(PART, "(as they are then;", () -> {
            // 3 and the bend of 9 follow 2 and the other bend of 9, which have just changed places.
            sweeps("I5 I0 I0 I5 I1", "0 | 1 e5 | 2 e9 | 3 e9 | 4", "0 | 1 e5 | e9 2 | e9 3 | 4");
        });

        document.says(PART, "one with two lines counts twice)", () -> {
            // Up, 1 has two lines to 2, and one to 3: its mean is 4/3, more than 1 of the bend of 7.
            sweeps("I2 I3 G1 I5 G0", "0 | 1 e1 e7 | 2 3 e7 | 4", "0 | 1 e1 e7 | 3 2 e7 | 4",
                    "0 | e7 1 e1 | 3 e7 2 | 4");
        });

        document.says(PART, "without any, its own place.", () -> {
            // Up, 2 has no line, so its mean is 1, behind that of the bend of 5.
            sweeps("I2 G3 S I0", "0 | 1 2 e5 | 3", "0 | 1 2 e5 | 3", "0 | 1 e5 2 | 3");
            // Up, 1 has no line, so its mean is 0, as that of 2.
            sweeps("I2 S I4 S", "0 | 1 2 | 3", "0 | 1 2 | 3", "0 | 1 2 | 3");
        });
    }

    private void sweepsUp() {
        document.says(PART,
                "A SWEEP up goes likewise from the last LAYER but one to 0, by the LAYERS", () -> {
            sweeps("I3 I2 I0 S", "0 | 1 e1 e4 | 2 e1 | 3", "0 | 1 e1 e4 | 2 e1 | 3",
                    "0 | 1 e4 e1 | 2 e1 | 3");
            // 1, the last LAYER but one, by 2, the last one, which stays as it is.
            sweeps("G1 I3 G0 G0", "0 | 1 e3 e4 | 2 3", "0 | 1 e3 e4 | 2 3", "0 | e3 1 e4 | 2 3");
            // 1, the first LAYER of all, is the last to be ordered: by 2 as it is then.
            sweeps(BENT, "0 | 1 e1 e6 | 2 e1 e3 e6 e8 | 3 e1 e8 | 4",
                    "0 | 1 e1 e6 | 2 e3 e8 e1 e6 | 3 e8 e1 | 4",
                    "0 | 1 e6 e1 | 2 e3 e6 e8 e1 | 3 e8 e1 | 4",
                    "0 | 1 e6 e1 | 2 e3 e8 e6 e1 | 3 e8 e1 | 4");
        });
    }

    private void sweepsByCalls() {
        document.says(PART,
                "Sweeps are done by calls, one down, the next one up, and so on, over all", () -> {
            String[] after = {
                "0 | 1 e1 e5 | 2 e1 e7 | 3", "0 | 1 e1 e5 | e7 2 e1 | 3", "0 | 1 e5 e1 | e7 2 e1 | 3"};
            sweeps("I3 I4 I0 I1", after);
            OrielChart x = Check.chart("I3 I4 I0 I1");
            x.sweep(2);
            Check.same("both by one call", Check.layers(x), after[2]);
            // Each of its first sweeps changes the layers.
            for (int first = 0; first <= 3; first++) {
                OrielChart one = Check.chart(BENT);
                OrielChart other = Check.chart(BENT);
                one.sweep(4);
                for (int k = 0; k < first; k++) {
                    other.sweep(1);
                }
                other.sweep(4 - first);
                String what = "four, " + first + " of them alone";
                Check.same(what, Check.layers(other), Check.layers(one));
            }
        });
    }

    private void sweepsAreKept() {
        OrielChart x = Check.chart(CROSSED);
        document.says(PART, "they are kept till the next insert(), remove() or setTarget()", () -> {
            x.sweep(1);
            x.setUse(0, 1, 2);
            x.digest();
            Check.same("setUse() keeps the ORDERS", Check.layers(x), "0 | 1 3 | 5 2");
            Check.same("setUse() keeps swept()", x.swept(), 1);
            x.insert(6, 0, 0);
            Check.same("insert()", Check.layers(x), "0 | 1 3 | 2 5");
            Check.same("swept() after insert()", x.swept(), 0);
            x.sweep(1);
            Check.same("swept anew", Check.layers(x), "0 | 1 3 | 5 2");
            x.remove(6);
            Check.same("remove()", Check.layers(x), "0 | 1 3 | 2 5");
            Check.same("swept() after remove()", x.swept(), 0);
            x.sweep(1);
            x.setTarget(3, 4);
            x.setTarget(3, 2);
            Check.same("setTarget()", Check.layers(x), "0 | 1 3 | 2 5");
        });

        document.says(PART, "(also if that changes nothing)", () -> {
            x.sweep(1);
            Check.same("swept", Check.layers(x), "0 | 1 3 | 5 2");
            Check.same("setTarget() to the same", x.setTarget(3, 2), 2);
            Check.same("anew", Check.layers(x), "0 | 1 3 | 2 5");
            Check.same("swept()", x.swept(), 0);
        });

        document.says(PART, "which begins the drawing anew.", () -> {
            OrielChart y = Check.chart("I3 I3 I1 P");
            y.sweep(1);
            y.setTarget(0, 3);
            Check.same("at first", Check.layers(y), "0 | 1 e1 | 2 e1 e3 | 3");
            y.sweep(1);
            Check.same("down first again", Check.layers(y), "0 | 1 e1 | 2 e3 e1 | 3");
        });
    }

    private void lines() {
        document.says(PART,
                "is a row of lines, from the BLOCK by its BENDS to the other BLOCK.", () -> {
            Check.same("by a BEND", Check.chart("I2 I3 S G1").crossings(), 2);
            Check.same("by three", Check.chart("I4 I4 I4 P S").crossings(), 3);
        });

        document.says(PART, "Two lines between the same two LAYERS CROSS,", () -> {
            Check.same("of the LAYERS 1 and 2", Check.chart(CROSSED).crossings(), 1);
            Check.same("none of one LAYER", Check.chart("P").crossings(), 0);
        });

        document.says(PART, "if their places are the other way round above and below.", () -> {
            Check.same("the same way round", Check.chart("I3 I1 I2 I2").crossings(), 0);
            Check.same("the same place above", Check.chart("I2 S S").crossings(), 0);
            Check.same("the same place below", Check.chart("I3 P G4 P S").crossings(), 0);
            Check.same("the same place above and below", Check.chart("G1 I0").crossings(), 0);
        });
    }

    private void askedLayers() {
        OrielChart x = Check.chart("I2 P S S");
        document.says("Promise 33", "Returns how many LAYERS there are.", () -> {
            Check.same("layers()", x.layers(), 3);
            Check.same("one", Check.chart("G0").layers(), 1);
            Check.same("without code", none.layers(), 0);
            Check.same("most", full().layers(), 40);
        });

        document.says("Promise 34", "Returns its LAYER;", () -> {
            Check.same("layerOf", Check.row(3, x::layerOf), "0 1 2");
        });

        document.says("Promise 34", "-1 if it is not REACHED.", () -> {
            Check.same("layerOf(3)", x.layerOf(3), -1);
        });

        OrielChart y = Check.chart("I0 G0 G2");
        document.says("Promise 34", "if there is no such BLOCK", () -> {
            Check.bounds("layerOf", 4, x::layerOf);
            Check.bounds("without code", 0, none::layerOf);
            Check.bounds("of full code", 40, full()::layerOf);

        });

        document.says("Promise 35", "Returns whether it is TURNED;", () -> {
            Check.same("edges", Check.edges(y), "0>1 0>0 1>0 2>2");
            Check.same("isTurned(0)", y.isTurned(0), false);
            Check.same("isTurned(2)", y.isTurned(2), true);
        });

        document.says("Promise 35", "false for one that is not drawn, too.", () -> {
            Check.same("to itself", y.isTurned(1), false);
            Check.same("not reached", y.isTurned(3), false);
            Check.same("not reached, back to 0", Check.chart("S G0").isTurned(1), false);
            Check.same("to the EXIT", Check.chart("P").isTurned(0), false);
        });

        document.says("Promise 35", "if there is no such EDGE", () -> {
            Check.bounds("isTurned", 4, e -> y.isTurned(e) ? 1 : 0);
            Check.bounds("without code", 0, e -> none.isTurned(e) ? 1 : 0);
            OrielChart full = full();
            Check.bounds("of full code", 80, e -> full.isTurned(e) ? 1 : 0);
        });
    }

    private void askedPoints() {
        OrielChart x = Check.chart("I2 P S S");
        OrielChart full = full();
        document.says("Promise 36", "Returns how many POINTS it has.", () -> {
            Check.same("points", Check.row(3, x::points), "1 2 1");
            Check.same("20 bends of the first 20, 19 of the last", full.points(20), 1 + 20 + 19);
            Check.same("points(39) of 40", full.points(39), 1);
        });

        document.says("Promise 36", "if there is no such LAYER", () -> {
            Check.bounds("points", 3, x::points);
            Check.bounds("without code", 0, none::points);
            Check.bounds("most", 40, full::points);
        });

        document.says("Promise 37", "a place in its ORDER, from 0 on", () -> {
            Check.same("pointAt(0, 0)", x.pointAt(0, 0), 0);
        });

        document.says("Promise 37", "Returns the BLOCK there;", () -> {
            Check.same("pointAt(1, 0)", x.pointAt(1, 0), 1);
            Check.same("pointAt(2, 0)", x.pointAt(2, 0), 2);
        });

        document.says("Promise 37", "-1 - e for a BEND of the EDGE e.", () -> {
            Check.same("of 1", x.pointAt(1, 1), -2);
            Check.same("of 0", Check.chart("I2 S G1").pointAt(1, 1), -1);
            Check.same("of 79", full.pointAt(1, full.points(1) - 1), -80);
        });

        document.says("Promise 37", "if there is no such LAYER, or place", () -> {
            Check.bounds("pointAt, LAYER", 3, l -> x.pointAt(l, 0));
            Check.bounds("pointAt, place", 2, p -> x.pointAt(1, p));
            Check.bounds("pointAt, place of the last", 1, p -> x.pointAt(2, p));
            Check.bounds("without code", 0, l -> none.pointAt(l, 0));
            Check.bounds("most", 40, p -> full.pointAt(20, p));
        });

        OrielChart y = Check.chart(CROSSED);
        document.says("Promise 38", "Returns its place in the ORDER of its LAYER;", () -> {
            Check.same("at first", Check.row(6, y::placeOf), "0 0 0 1 -1 1");
            y.sweep(1);
            Check.same("swept", Check.row(6, y::placeOf), "0 0 1 1 -1 0");
        });

        document.says("Promise 38", "-1 if it is not REACHED.", () -> {
            Check.same("placeOf(4)", y.placeOf(4), -1);
        });

        document.says("Promise 38", "if there is no such BLOCK", () -> {
            Check.bounds("placeOf", 6, y::placeOf);
            Check.bounds("without code", 0, none::placeOf);
            Check.bounds("of full code", 40, full::placeOf);
        });
    }

    private void askedBends() {
        OrielChart x = Check.chart(BENT);
        document.says("Promise 39", "Returns how many BENDS it has;", () -> {
            Check.same("edges", Check.edges(x), "0>1 0>4 1>2 1>3 2>3 3>4 3>0 4>x 4>1");
            Check.same("bends", Check.row(9, x::bends), "0 3 0 1 0 0 2 -1 2");
        });

        OrielChart y = Check.chart("I0 G0 G2 G1");
        document.says("Promise 39", "-1 if it is not drawn.", () -> {
            Check.same("edges", Check.edges(y), "0>1 0>0 1>0 2>2 3>1");
            Check.same("to itself, not reached", Check.row(5, y::bends), "0 -1 0 -1 -1");
            Check.same("to the EXIT", x.bends(7), -1);
        });

        document.says("Promise 39", "if there is no such EDGE", () -> {
            Check.bounds("bends", 9, x::bends);
            Check.bounds("without code", 0, none::bends);
            Check.bounds("of full code", 80, full()::bends);
        });

        document.says("Promise 40",
                "a BEND of it, from 0 on, the one in the smallest LAYER first", () -> {
            Check.same("of 1", Check.row(3, k -> x.bendAt(1, k)), "1 1 1");
            Check.same("of 8, which is turned", Check.row(2, k -> x.bendAt(8, k)), "4 2");
        });

        document.says("Promise 40", "Returns its place in the ORDER of its LAYER.", () -> {
            Check.same("of 3", x.bendAt(3, 0), 2);
            x.sweep(1);
            Check.same("of 3, swept", x.bendAt(3, 0), 1);
            Check.same("of 8, swept", Check.row(2, k -> x.bendAt(8, k)), "2 1");
        });

        document.says("Promise 40", "if there is no such EDGE, or BEND", () -> {
            Check.bounds("BEND of 1", 3, k -> x.bendAt(1, k));
            Check.bounds("BEND of the last", 2, k -> x.bendAt(8, k));
            OrielChart zero = Check.chart("I2 S G1");
            Check.bounds("BEND of the EDGE 0", 1, k -> zero.bendAt(0, k));
            Check.bounds("BEND of one without", 0, k -> x.bendAt(0, k));
            Check.bounds("BEND of one to the EXIT", 0, k -> x.bendAt(7, k));
            Check.bounds("BEND of one to itself", 0, k -> y.bendAt(1, k));
            Check.bounds("BEND of one that is not reached", 0, k -> y.bendAt(4, k));
            OrielChart full = full();
            Check.bounds("BEND of the longest", 38, k -> full.bendAt(1, k));
            for (int e : new int[] {-1, 9, LEAST, MOST}) {
                Check.noPlace("the EDGE " + e, () -> x.bendAt(e, 0));
                Check.noPlace("without code, the EDGE " + e, () -> none.bendAt(e, 0));
            }
        });
    }

    private void crossings() {
        document.says("Promise 41", "Returns how many pairs of lines CROSS.", () -> {
            Check.same("without code", none.crossings(), 0);
            OrielChart x = Check.chart(BENT);
            Check.same("at first", x.crossings(), 5);
            x.sweep(1);
            Check.same("swept once", x.crossings(), 2);
            // Two lines between 1 and 3, by the EDGES 3 and 6, over that from the bend of 1 to 2.
            Check.same("two for two lines", Check.chart("I2 I3 G2 I1").crossings(), 2);
        });
    }

    private void sweep() {
        document.says("Promise 42", "Does SWEEPS.", () -> {
            OrielChart x = Check.chart(BENT);
            x.sweep(2);
            Check.same("two", Check.layers(x), "0 | 1 e6 e1 | 2 e3 e6 e8 e1 | 3 e8 e1 | 4");
        });

        OrielChart y = Check.chart(BENT);
        document.says("Promise 42", "Returns crossings() then.", () -> {
            Check.same("the first", y.sweep(1), 2);
            Check.same("the second", y.sweep(1), 1);
            Check.same("crossings()", y.crossings(), 1);
            Check.same("both", Check.chart(BENT).sweep(2), 1);
            Check.same("without code", new OrielChart().sweep(20), 0);
        });

        document.says("Promise 42", "if many is not 1 to 20", () -> {
            for (int many : new int[] {0, 21, -1, LEAST, MOST}) {
                Check.noArgument("sweep(" + many + ")", () -> y.sweep(many));
                Check.noArgument("without code", () -> none.sweep(many));
            }
            y.sweep(1);
            y.sweep(20);
            Check.same("1 and 20 are taken", y.swept(), 23);
        });
    }

    private void wouldCross() {
        OrielChart x = Check.chart(BENT);
        document.says("Promise 43", "Returns what sweep() would tell;", () -> {
            Check.same("at first", x.crossings(), 5);
            Check.same("one", x.wouldCross(1), 2);
            Check.same("two", x.wouldCross(2), 1);
            x.sweep(1);
            Check.same("one up", x.wouldCross(1), 1);
            // Down, and up: the second is the worse one.
            OrielChart y = Check.chart("I3 I4 I3 S S");
            Check.same("down", y.wouldCross(1), 0);
            Check.same("down and up", y.wouldCross(2), 1);
            y.sweep(1);
            Check.same("up", y.wouldCross(1), 1);
            Check.same("up and down", y.wouldCross(2), 0);
            Check.same("without code", none.wouldCross(20), 0);
        });

        document.says("Promise 43", "nothing is changed.", () -> {
            none.wouldCross(20);
            Check.same("swept() without code", none.swept(), 0);
            for (int sweeps = 0; sweeps <= 2; sweeps++) {
                for (int many : new int[] {1, 2, 3, 19, 20}) {
                    OrielChart z = Check.chart(CROSSED);
                    for (int k = 0; k < sweeps; k++) {
                        z.sweep(1);
                    }
                    String before = Check.layers(z) + Check.row(6, z::placeOf);
                    z.wouldCross(many);
                    Check.same("ORDERS", Check.layers(z) + Check.row(6, z::placeOf), before);
                    Check.same("swept()", z.swept(), sweeps);
                    Check.same("crossings()", z.crossings(), sweeps == 0 ? 1 : 0);
                }
            }
            OrielChart bent = Check.chart(BENT);
            bent.wouldCross(1);
            Check.same("bendAt of 8", Check.row(2, k -> bent.bendAt(8, k)), "4 2");
            Check.same("the next one is down", bent.sweep(1), 2);
        });

        document.says("Promise 43", "if many is not 1 to 20", () -> {
            for (int many : new int[] {0, 21, -1, LEAST, MOST}) {
                Check.noArgument("wouldCross(" + many + ")", () -> x.wouldCross(many));
                Check.noArgument("without code", () -> none.wouldCross(many));
            }
            Check.same("20 is taken", Check.chart(CROSSED).wouldCross(20), 0);
        });
    }

    private void swept() {
        document.says("Promise 44",
                "Returns how many SWEEPS were done since the drawing was begun anew last.", () -> {
            OrielChart x = Check.chart(CROSSED);
            Check.same("none", x.swept(), 0);
            x.sweep(20);
            x.sweep(1);
            x.sweep(20);
            Check.same("41", x.swept(), 41);
            x.wouldCross(5);
            x.setUse(0, 1, 1);
            Check.same("41 still", x.swept(), 41);
            x.setTarget(0, 3);
            Check.same("anew by setTarget()", x.swept(), 0);
            x.sweep(2);
            x.insert(0, 0, 0);
            Check.same("anew by insert()", x.swept(), 0);
            x.sweep(3);
            x.remove(0);
            Check.same("anew by remove()", x.swept(), 0);
            OrielChart empty = new OrielChart();
            empty.sweep(3);
            Check.same("without code", empty.swept(), 3);
            empty.insert(0, 0, 0);
            Check.same("with code then", empty.swept(), 0);
            empty.sweep(4);
            empty.remove(0);
            Check.same("without code again", empty.swept(), 0);
        });
    }

    private void meanLength() {
        document.says("Promise 45",
                "the EDGES go through that are drawn (the difference of their LAYERS)", () -> {
            Check.same("1, 1, 1 and 1", Check.chart("I3 P G4 P S").meanLength(), 1.0);
            Check.same("1, 2 and 1", Check.chart("I2 P S").meanLength(), 4.0 / 3.0);
            Check.same("turned, 2", Check.chart("P G2 G3 I1 S").meanLength(), 6.0 / 5.0);
            Check.same("those not drawn left out", Check.chart("I0 G0 G2 G1").meanLength(), 1.0);
        });

        document.says("Promise 45", "not cut;", () -> {
            Check.same("16 of 8", Check.chart(BENT).meanLength(), 16.0 / 8.0);
            Check.same("4 of 3", Check.chart("I2 P S").meanLength() > 1.3, true);
        });

        document.says("Promise 45", "0 without any.", () -> {
            Check.same("without code", none.meanLength(), 0.0);
            Check.same("to the EXIT only", Check.chart("P").meanLength(), 0.0);
            Check.same("to itself only", Check.chart("G0").meanLength(), 0.0);
            Check.same("not reached only", Check.chart("S G3 P P").meanLength(), 0.0);
        });
    }

    private void checksum() {
        // Without code, all is 0, but isTame().
        BigInteger[] d = {BigInteger.valueOf(2557)};
        add(d, 0, 0, 0, 0, 1, 0, 0, 0, 0, 0, 0, 0, 0);
        document.says("Promise 46", "A number d starts with 2557;", () ->
                Check.same("without code", new OrielChart().digest(), d[0].longValue()));

        document.says("Promise 46", "d * 31 + v, which wraps around as a 64-bit integer", () -> {
            Check.same("it does not fit in", d[0].bitLength() > 63, true);
            Check.same("wrapped around", new OrielChart().digest(), -6562806086967277532L);
        });

        OrielChart wild = Check.chart("I2 G2 I1 S P");
        document.says("Promise 46", "(1 if something is so, 0 if not)", () -> {
            OrielChart neat = Check.chart("P");
            Check.same("one block", neat.digest(), sum(neat));
            Check.same("wild", wild.digest(), sum(wild));
        });

        document.says("Promise 46", "Returns d.", () -> {
            Check.same("the same again", wild.digest(), wild.digest());
        });

        document.says("Promise 46", "Computes a checksum.", () -> {
            OrielChart crossed = Check.chart(CROSSED);
            Check.same("crossed", crossed.digest(), sum(crossed));
        });
    }

    private void orderOfTheChecksum() {
        // Each part is asked for with charts in which its values are not the same.
        String[] parts = {
            "instructions(), and of each kindOf(), targetOf(), blockOf();",
            "blocks(), and of each, one BLOCK behind the other, firstOf(), isReached(), parentOf(),",
            "loopSize(), depthOf(), liveIn(), endsIn(), layerOf(), placeOf();",
            "edges(), and of each edgeFrom(), edgeTo(), isBack(), isTurned(), bends();",
            "loops(), isTame(), vain(), windings();",
            "steps(), and of each ruleOf(), nodeOf();",
            "left(), isNeat();",
            "layers(), and of each points(), and each pointAt();",
            "crossings(), swept()."};
        for (String part : parts) {
            document.says("Promise 46", part, () -> {
                for (String code : new String[] {"P P I5 P G1 S P", "I2 I2 I1 G5 P S", BENT}) {
                    OrielChart x = Check.chart(code);
                    x.setUse(0, 1, 6);
                    x.setUse(2, 2, 9);
                    x.sweep(1);
                    Check.same(code, x.digest(), sum(x));
                }
            });
        }
    }

    /** The checksum from the other answers, without any wrapping around till the end. */
    private static long sum(OrielChart x) {
        BigInteger[] d = {BigInteger.valueOf(2557)};
        add(d, x.instructions());
        for (int i = 0; i < x.instructions(); i++) {
            add(d, x.kindOf(i), x.targetOf(i), x.blockOf(i));
        }
        add(d, x.blocks());
        for (int b = 0; b < x.blocks(); b++) {
            add(d, x.firstOf(b), x.isReached(b) ? 1 : 0, x.parentOf(b), x.loopSize(b));
            add(d, x.depthOf(b), x.liveIn(b), x.endsIn(b), x.layerOf(b), x.placeOf(b));
        }
        add(d, x.edges());
        for (int e = 0; e < x.edges(); e++) {
            add(d, x.edgeFrom(e), x.edgeTo(e), x.isBack(e) ? 1 : 0, x.isTurned(e) ? 1 : 0);
            add(d, x.bends(e));
        }
        add(d, x.loops(), x.isTame() ? 1 : 0, x.vain(), x.windings(), x.steps());
        for (int s = 0; s < x.steps(); s++) {
            add(d, x.ruleOf(s), x.nodeOf(s));
        }
        add(d, x.left(), x.isNeat() ? 1 : 0, x.layers());
        for (int l = 0; l < x.layers(); l++) {
            add(d, x.points(l));
            for (int p = 0; p < x.points(l); p++) {
                add(d, x.pointAt(l, p));
            }
        }
        add(d, x.crossings(), x.swept());
        return d[0].longValue();
    }

    private static void add(BigInteger[] d, int... values) {
        for (int v : values) {
            d[0] = d[0].multiply(BigInteger.valueOf(31)).add(BigInteger.valueOf(v));
        }
    }
}
