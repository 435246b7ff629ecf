/** The sentences on who is ahead of whom, and of the promises 16 to 26. */
final class RanksSentences {
    private static final String DIAMOND = "I3 P G4 P S";
    /** A loop of 1 to 4, in it one of 2 and 3. */
    private static final String NESTED = "P P P I5 G2 I1 S";
    /** A circle of 1 and 2, into which one comes at both. */
    private static final String WILD = "I2 G2 I1 S";
    /** 1 is not reached, and goes to itself and to 2. */
    private static final String AWAY = "G2 I1 S";

    private final Document document;
    private final OrielChart none = new OrielChart();
    private final OrielChart full = BlocksSentences.ifs(40);

    RanksSentences(Document document) {
        this.document = document;
    }

    void all() {
        document.test(
                this::dominance, this::parents, this::behind, this::backEdges, this::loops,
                this::depths, this::tameness, this::live, this::askedPairs, this::askedLoops,
                this::askedVariables, this::vain, this::windings);
    }

    private static String dominated(OrielChart x, int one) {
        return Check.row(x.blocks(), b -> x.dominates(one, b) ? 1 : 0);
    }

    private static String ahead(OrielChart x, int one) {
        return Check.row(x.blocks(), b -> x.comesBehind(one, b) ? 1 : 0);
    }

    private static String back(OrielChart x) {
        return Check.row(x.edges(), e -> x.isBack(e) ? 1 : 0);
    }

    private void dominance() {
        OrielChart x = Check.chart(DIAMOND);
        document.says("3. Who is ahead of whom",
                "A BLOCK d DOMINATES a BLOCK b, if each way from the BLOCK 0 to b goes by d", () -> {
            Check.same("0 of all", dominated(x, 0), "1 1 1 1");
            Check.same("1 on one way of two", dominated(x, 1), "0 1 0 0");
            OrielChart row = Check.chart("G2 S I1 S");
            Check.same("2 of one with a smaller number", dominated(row, 2), "0 1 1 1");
            Check.same("none the other way round", dominated(row, 1), "0 1 0 0");
            OrielChart y = Check.chart(WILD);
            Check.same("1 of a circle with two ways in", dominated(y, 1), "0 1 0 0");
            Check.same("2 of it", dominated(y, 2), "0 0 1 1");
            OrielChart z = Check.chart(NESTED);
            Check.same("the beginning of a loop", dominated(z, 2), "0 0 1 1 1 1");
        });

        document.says("3. Who is ahead of whom", "goes by d (each one itself, too)", () -> {
            for (int b = 0; b < 4; b++) {
                Check.same(b + " itself", x.dominates(b, b), true);
            }
            Check.same("the only one itself", Check.chart("P").dominates(0, 0), true);
        });
    }

    private void parents() {
        document.says("3. Who is ahead of whom",
                "The nearest of those that dominate b, but b itself, is its PARENT", () -> {
            OrielChart x = Check.chart(NESTED);
            Check.same("a row", Check.row(6, x::parentOf), "-1 0 1 2 2 4");
            OrielChart y = Check.chart(DIAMOND);
            Check.same("two ways", Check.row(4, y::parentOf), "-1 0 0 0");
            OrielChart z = Check.chart("G3 S G1 G2");
            Check.same("with greater numbers", Check.row(4, z::parentOf), "-1 2 3 0");
        });

        document.says("3. Who is ahead of whom", "(the BLOCK 0 has none)", () -> {
            Check.same("alone", Check.chart("P").parentOf(0), -1);
            Check.same("with an EDGE to it", Check.chart("P G0").parentOf(0), -1);
            Check.same("with one from behind", Check.chart("I0 G0").parentOf(0), -1);
        });
    }

    private void behind() {
        document.says("3. Who is ahead of whom", "if one can come from b to the EXIT", () -> {
            OrielChart x = Check.chart("I2 G1 S");
            Check.same("no way from 1: 0 of all", ahead(x, 0), "1 0 0");
            Check.same("no way from 1: 1 of all", ahead(x, 1), "0 0 0");
            Check.same("no way from 1: 2 of all", ahead(x, 2), "1 0 1");
            OrielChart round = Check.chart("G1 G0");
            Check.same("no way at all: 0", ahead(round, 0), "0 0");
            Check.same("no way at all: 1", ahead(round, 1), "0 0");
        });

        document.says("3. Who is ahead of whom", "and each such way goes by p", () -> {
            OrielChart y = Check.chart(DIAMOND);
            Check.same("3 of all", ahead(y, 3), "1 1 1 1");
            Check.same("1 on one way of two", ahead(y, 1), "0 1 0 0");
            Check.same("0 of none behind", ahead(y, 0), "1 0 0 0");
            OrielChart ends = Check.chart("I2 S S");
            Check.same("two last ones", ahead(ends, 2), "0 0 1");
            OrielChart early = Check.chart("I40 P");
            Check.same("one way goes to the EXIT at once", ahead(early, 1), "0 1");
            OrielChart back = Check.chart("I3 I3 G0 S");
            Check.same("a way back, and on", ahead(back, 3), "1 1 1 1");
            Check.same("all ways from 2 go back by 0", ahead(back, 0), "1 0 1 0");
        });

        document.says("3. Who is ahead of whom", "(each one itself, too, if one can)", () -> {
            Check.same("one can", Check.chart("P").comesBehind(0, 0), true);
            Check.same("one can, after some rounds", Check.chart("I0").comesBehind(0, 0), true);
            Check.same("one can't", Check.chart("G0").comesBehind(0, 0), false);
        });
    }

    private void backEdges() {
        document.says("3. Who is ahead of whom",
                "An EDGE is BACK, if the BLOCK to which it goes dominates the one from which", () -> {
            OrielChart x = Check.chart(NESTED);
            Check.same("nested: edges", Check.edges(x), "0>1 1>2 2>3 2>4 3>2 4>5 4>1 5>x");
            Check.same("nested: isBack", back(x), "0 0 0 0 1 0 1 0");
            Check.same("from a BLOCK to itself", back(Check.chart("I0")), "0 1");
            Check.same("back to 0 from far", back(Check.chart("I1 I2 G0")), "0 0 1");
            // Turned in the drawing, but the other way round one comes in, too.
            Check.same("wild", back(Check.chart(WILD)), "0 0 0 0 0 0");
            // To a smaller number, but not to one that one was at.
            Check.same("to a smaller number", back(Check.chart("G2 S G1")), "0 0 0");
        });
    }

    private void loops() {
        document.says("3. Who is ahead of whom",
                "The LOOP of a BLOCK h to which BACK EDGES go has h", () -> {
            OrielChart self = Check.chart("P P I1 S");
            Check.same("h alone", Check.row(3, self::loopSize), "0 1 0");
            Check.same("h is in it", self.depthOf(1), 1);
            Check.same("the BLOCK 0 alone", Check.chart("G0").loopSize(0), 1);
        });

        document.says("3. Who is ahead of whom",
                "and all BLOCKS from which one can come to the beginning of one of these", () -> {
            OrielChart x = Check.chart("P I5 I4 G1 S S");
            Check.same("not those that go away", Check.row(6, x::loopSize), "0 3 0 0 0 0");
            Check.same("1, 2 and 3", Check.row(6, x::depthOf), "0 1 1 1 0 0");
            OrielChart two = Check.chart("P I3 G1 G1");
            Check.same("two BACK EDGES make one", two.loops(), 1);
            Check.same("of 1, 2 and 3", Check.row(4, two::depthOf), "0 1 1 1");
            OrielChart own = Check.chart("P I4 I2 G1 I1 S");
            Check.same("edges", Check.edges(own), "0>1 1>2 1>4 2>3 2>2 3>1 4>5 4>1 5>x");
            Check.same("all that come to one of both", Check.row(6, own::loopSize), "0 4 1 0 0 0");
        });

        document.says("3. Who is ahead of whom", "without going by h", () -> {
            OrielChart y = Check.chart(NESTED);
            Check.same("the inner one lacks 1 and 4", Check.row(6, y::loopSize), "0 4 2 0 0 0");
            Check.same("inner and outer", Check.row(6, y::depthOf), "0 1 2 2 1 0");
            OrielChart z = Check.chart("P P I2 I1 S");
            Check.same("h alone in an outer one", Check.row(5, z::loopSize), "0 3 1 0 0");
        });
    }

    private void depths() {
        document.says("3. Who is ahead of whom",
                "The DEPTH of a BLOCK is in how many LOOPS it is.", () -> {
            OrielChart x = Check.chart("P P I2 I1 I0");
            Check.same("three", Check.row(5, x::depthOf), "1 2 3 2 1");
            OrielChart y = Check.chart(DIAMOND);
            Check.same("none", Check.row(4, y::depthOf), "0 0 0 0");
            OrielChart z = Check.chart("P I1 I2 S");
            Check.same("one behind the other", Check.row(4, z::depthOf), "0 1 1 0");
            // All but the last go to 0, and the last to itself.
            OrielChart most = BlocksSentences.ifs(40);
            most.setTarget(39, 39);
            Check.same("the last is in its own alone", most.depthOf(39), 1);
            Check.same("the one ahead of it in that of 0", most.depthOf(38), 1);
        });
    }

    private void tameness() {
        document.says("3. Who is ahead of whom",
                "The graph is TAME, if without its BACK EDGES one can nowhere come back", () -> {
            Check.same("no circle", Check.chart(DIAMOND).isTame(), true);
            Check.same("loops", Check.chart(NESTED).isTame(), true);
            Check.same("one to itself", Check.chart("G0").isTame(), true);
            Check.same("back from two", Check.chart("P I3 G1 G1").isTame(), true);
            Check.same("two ways in", Check.chart(WILD).isTame(), false);
            Check.same("the same, far behind", Check.chart("G1 I5 S S S I7 G7 I6 S").isTame(), false);
            Check.same("the same, in a loop", Check.chart("P I3 G3 I2 G1").isTame(), false);
            Check.same("the same, not reached", Check.chart("S I3 G3 I2 S").isTame(), true);
            Check.same("a circle of three", Check.chart("I2 G2 G3 I1 S").isTame(), false);
            Check.same("without code", none.isTame(), true);
        });
    }

    private void live() {
        document.says("3. Who is ahead of whom",
                "A variable is LIVE at the beginning of a BLOCK,", () -> {
            OrielChart x = Check.chart("P P P");
            x.setUse(0, 0, 0);
            x.setUse(1, -1, 3);
            x.setUse(2, 1, 4);
            Check.same("of the whole row", x.liveIn(0), 6);
            x.setUse(0, 2, 0);
            Check.same("what the first sets is not", x.liveIn(0), 3);
        });

        document.says("3. Who is ahead of whom",
                "if along some way from there it is used ahead of being set", () -> {
            OrielChart y = Check.chart(DIAMOND);
            y.setUse(3, -1, 1);
            Check.same("on one way of two", Check.row(4, y::liveIn), "1 0 1 0");
            y.setUse(4, -1, 128);
            y.setUse(1, 7, 0);
            Check.same("set on one way of two", Check.row(4, y::liveIn), "129 0 129 128");
            y.setUse(3, 7, 1);
            Check.same("set on both", Check.row(4, y::liveIn), "1 0 1 128");
            y.setUse(2, -1, 32);
            Check.same("others on the other way", Check.row(4, y::liveIn), "33 32 1 128");
            OrielChart round = Check.chart("P P I4 G1 S");
            round.setUse(1, -1, 1);
            round.setUse(4, -1, 2);
            Check.same("round, and behind", Check.row(4, round::liveIn), "3 3 3 2");
            round.setUse(3, 0, 0);
            Check.same("set on the way round", Check.row(4, round::liveIn), "3 3 2 2");
            // Each block hands on what the one with the next smaller number needs.
            OrielChart far = new OrielChart();
            for (int i = 0; i < 40; i++) {
                far.insert(i, 2, 0);
            }
            for (int i = 0; i < 40; i++) {
                far.setTarget(i, (i + 39) % 40);
            }
            far.setUse(0, -1, 8);
            far.setUse(1, -1, 1);
            Check.same("up to forty blocks on", far.liveIn(39), 9);
            Check.same("and round", far.liveIn(0), 9);
        });

        document.says("3. Who is ahead of whom", "(an INSTRUCTION uses ahead of setting)", () -> {
            OrielChart z = Check.chart("P");
            z.setUse(0, 3, 8);
            Check.same("the same one uses and sets", z.liveIn(0), 8);
            OrielChart u = Check.chart("P P");
            u.setUse(0, 3, 0);
            u.setUse(1, 3, 8);
            Check.same("set ahead of that", u.liveIn(0), 0);
            Check.same("so the first is not in vain", u.vain(), 1);
        });
    }

    private void askedPairs() {
        OrielChart x = Check.chart(DIAMOND);
        OrielChart y = Check.chart(AWAY);
        document.says("Promise 16", "Returns whether the one DOMINATES the other;", () -> {
            Check.same("the one the other", x.dominates(0, 3), true);
            Check.same("not the other the one", x.dominates(3, 0), false);
        });

        document.says("Promise 16", "false if one of both is not REACHED.", () -> {
            Check.same("the other", y.dominates(0, 1), false);
            Check.same("the one", y.dominates(1, 2), false);
            Check.same("both", y.dominates(1, 1), false);
        });

        document.says("Promise 16", "if there is no such BLOCK", () -> {
            Check.bounds("the one", 4, k -> x.dominates(k, 0) ? 1 : 0);
            Check.bounds("the other", 4, k -> x.dominates(3, k) ? 1 : 0);
            Check.bounds("without code", 0, k -> none.dominates(k, k) ? 1 : 0);
            Check.bounds("of full code", 40, k -> full.dominates(k, 39) ? 1 : 0);
        });

        document.says("Promise 17", "Returns its PARENT;", () -> {
            Check.same("parentOf(3)", x.parentOf(3), 0);
            Check.same("parentOf(39)", full.parentOf(39), 38);
        });

        document.says("Promise 17", "-1 of the BLOCK 0, and of one that is not REACHED.", () -> {
            Check.same("the BLOCK 0", x.parentOf(0), -1);
            Check.same("not reached", y.parentOf(1), -1);
        });

        document.says("Promise 17", "if there is no such BLOCK", () -> {
            Check.bounds("parentOf", 4, x::parentOf);
            Check.bounds("without code", 0, none::parentOf);
            Check.bounds("of full code", 40, full::parentOf);
        });

        document.says("Promise 18", "Returns whether the one COMES BEHIND the other;", () -> {
            Check.same("the one the other", x.comesBehind(3, 0), true);
            Check.same("not the other the one", x.comesBehind(0, 3), false);
        });

        document.says("Promise 18", "false if one of both is not REACHED.", () -> {
            Check.same("the one", y.comesBehind(1, 0), false);
            Check.same("the other", y.comesBehind(2, 1), false);
            Check.same("both", y.comesBehind(1, 1), false);
        });

        document.says("Promise 18", "if there is no such BLOCK", () -> {
            Check.bounds("the one", 4, k -> x.comesBehind(k, 0) ? 1 : 0);
            Check.bounds("the other", 4, k -> x.comesBehind(3, k) ? 1 : 0);
            Check.bounds("without code", 0, k -> none.comesBehind(k, k) ? 1 : 0);
            Check.bounds("of full code", 40, k -> full.comesBehind(39, k) ? 1 : 0);
        });
    }

    private void askedLoops() {
        OrielChart x = Check.chart(NESTED);
        OrielChart y = Check.chart("S I1 G1");
        document.says("Promise 19", "Returns whether it is BACK;", () -> {
            Check.same("isBack", back(x), "0 0 0 0 1 0 1 0");
        });

        document.says("Promise 19",
                "false if it goes from a BLOCK that is not REACHED, or to the EXIT.", () -> {
            Check.same("not reached: edges", Check.edges(y), "0>x 1>2 1>1 2>1");
            Check.same("not reached: isBack", back(y), "0 0 0 0");
            Check.same("not reached, to 0", back(Check.chart("S G0")), "0 0");
            Check.same("to the EXIT", Check.chart("I0").isBack(0), false);
        });

        document.says("Promise 19", "if there is no such EDGE", () -> {
            Check.bounds("isBack", 8, e -> x.isBack(e) ? 1 : 0);
            Check.bounds("without code", 0, e -> none.isBack(e) ? 1 : 0);
            Check.bounds("of full code", 80, e -> full.isBack(e) ? 1 : 0);
        });

        OrielChart most = BlocksSentences.ifs(40);
        document.says("Promise 20", "Returns how many LOOPS there are.", () -> {
            Check.same("two", x.loops(), 2);
            Check.same("none that is reached", y.loops(), 0);
            Check.same("one of many BACK EDGES", full.loops(), 1);
            Check.same("without code", none.loops(), 0);
            for (int i = 0; i < 40; i++) {
                most.setTarget(i, i);
            }
            Check.same("most", most.loops(), 40);
        });

        document.says("Promise 21", "Returns how many BLOCKS its LOOP has;", () -> {
            Check.same("loopSize(1)", x.loopSize(1), 4);
            Check.same("most", full.loopSize(0), 40);
        });

        document.says("Promise 21", "0 if it has none.", () -> {
            Check.same("in the LOOP of another one", x.loopSize(3), 0);
            Check.same("in none", x.loopSize(5), 0);
            Check.same("not reached", y.loopSize(1), 0);
        });

        document.says("Promise 21", "if there is no such BLOCK", () -> {
            Check.bounds("loopSize", 6, x::loopSize);
            Check.bounds("without code", 0, none::loopSize);
            Check.bounds("of full code", 40, full::loopSize);
        });

        document.says("Promise 22", "Returns its DEPTH;", () -> {
            Check.same("depthOf", Check.row(6, x::depthOf), "0 1 2 2 1 0");
        });

        document.says("Promise 22", "0 if it is not REACHED.", () -> {
            Check.same("not reached, one to itself", y.depthOf(1), 0);
            Check.same("not reached, comes to a loop", Check.chart("G2 G2 I2 S").depthOf(1), 0);
        });

        document.says("Promise 22", "if there is no such BLOCK", () -> {
            Check.bounds("depthOf", 6, x::depthOf);
            Check.bounds("without code", 0, none::depthOf);
            Check.bounds("of full code", 40, full::depthOf);
        });

        document.says("Promise 23", "Returns whether the graph is TAME.", () -> {
            Check.same("nested", x.isTame(), true);
            Check.same("wild", Check.chart(WILD).isTame(), false);
        });
    }

    private void askedVariables() {
        OrielChart x = Check.chart("P S P");
        x.setUse(0, -1, 9);
        x.setUse(2, -1, 255);
        document.says("Promise 24",
                "Returns the set of variables that are LIVE at its beginning;", () -> {
            Check.same("liveIn(0)", x.liveIn(0), 9);
        });

        document.says("Promise 24", "0 if it is not REACHED.", () -> {
            Check.same("liveIn(1)", x.liveIn(1), 0);
        });

        document.says("Promise 24", "if there is no such BLOCK", () -> {
            Check.bounds("liveIn", 2, x::liveIn);
            Check.bounds("without code", 0, none::liveIn);
            Check.bounds("of full code", 40, full::liveIn);
        });
    }

    private static void vain(String what, OrielChart x, int due) {
        Check.same(what, x.vain(), due);
    }

    private void vain() {
        document.says("Promise 25",
                "Returns how many INSTRUCTIONS in BLOCKS that are REACHED", () -> {
            OrielChart x = Check.chart("P S P S");
            for (int i = 0; i < 4; i++) {
                x.setUse(i, i, 0);
            }
            vain("two of four", x, 2);
            x.setUse(0, -1, 0);
            vain("one that sets none", x, 1);
        });

        document.says("Promise 25",
                "set a variable that along no way from right behind them is used", () -> {
            OrielChart y = Check.chart(DIAMOND);
            y.setUse(0, 2, 0);
            vain("never used", y, 1);
            y.setUse(3, -1, 4);
            vain("used on one way", y, 0);
            OrielChart self = Check.chart("P");
            self.setUse(0, 2, 4);
            vain("used ahead by the same one", self, 1);
            OrielChart round = Check.chart("I0");
            round.setUse(0, 2, 4);
            vain("used by the same one, one round on", round, 0);
            OrielChart seventh = Check.chart("P P");
            seventh.setUse(0, 7, 0);
            seventh.setUse(1, -1, 127);
            vain("7, while all but 7 are used", seventh, 1);
            seventh.setUse(1, -1, 128);
            vain("7, while 7 is used", seventh, 0);
        });

        document.says("Promise 25", "is used ahead of being set.", () -> {
            OrielChart z = Check.chart("P P P");
            z.setUse(0, 0, 0);
            z.setUse(1, 0, 0);
            z.setUse(2, -1, 1);
            vain("set again ahead of that", z, 1);
            z.setUse(1, 0, 1);
            vain("set again by one that uses it ahead", z, 0);
            OrielChart far = Check.chart("I2 P P");
            far.setUse(0, 0, 0);
            far.setUse(1, 0, 0);
            far.setUse(2, -1, 1);
            vain("set again on one way only", far, 0);
        });
    }

    private void windings() {
        document.says("Promise 26",
                "Returns the EDGES of the graph (those to the EXIT, too)", () -> {
            Check.same("4 EDGES, 3 BLOCKS", Check.chart("I2 P S").windings(), 2);
            Check.same("two to the EXIT", Check.chart("I2 S S").windings(), 2);
            Check.same("one for both ways", Check.chart("I1 S").windings(), 1);
            Check.same("one for both, to the EXIT", Check.chart("I1").windings(), 1);
            Check.same("80 EDGES, 40 BLOCKS", full.windings(), 41);
        });

        document.says("Promise 26", "less its BLOCKS", () -> {
            Check.same("those that are not reached left out", Check.chart("S I1 G1").windings(), 1);
        });

        document.says("Promise 26",
                "less 1 for the EXIT (whether an EDGE goes to it or not)", () -> {
            Check.same("one goes", Check.chart("I0").windings(), 2);
            Check.same("none goes", Check.chart("G0").windings(), 1);
        });

        document.says("Promise 26", "and 2 added (0 without code)", () -> {
            Check.same("with code", Check.chart("P").windings(), 1);
            Check.same("without code", none.windings(), 0);
        });
    }
}
