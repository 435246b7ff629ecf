/** The sentences on blocks and edges, and of the promises 9 to 15. */
final class BlocksSentences {
    private final Document document;

    BlocksSentences(Document document) {
        this.document = document;
    }

    void all() {
        document.test(
                this::leaders, this::blocks, this::edges, this::oneEdgeOnly, this::numbersOfEdges,
                this::reached, this::whatIsNotReached, this::askedBlocks, this::askedEdges);
    }

    private static void cut(String code, String home) {
        OrielChart x = Check.chart(code);
        Check.same(code + ": blockOf", Check.row(x.instructions(), x::blockOf), home);
    }

    private static void edges(String code, String edges) {
        Check.same(code + ": edges", Check.edges(Check.chart(code)), edges);
    }

    private static void reached(String code, String reached) {
        OrielChart x = Check.chart(code);
        Check.same(code + ": isReached", Check.row(x.blocks(), b -> x.isReached(b) ? 1 : 0), reached);
    }

    static OrielChart ifs(int many) {
        OrielChart x = new OrielChart();
        for (int i = 0; i < many; i++) {
            x.insert(i, 1, 0);
        }
        return x;
    }

    private void leaders() {
        document.says("2. Blocks", "A LEADER is the INSTRUCTION 0", () -> {
            cut("P", "0");
            cut("P P P", "0 0 0");
            cut("S", "0");
        });

        document.says("2. Blocks", "each one that is the TARGET of an IF or a GO", () -> {
            cut("P P I1", "0 1 1");
            cut("P P G1", "0 1 1");
            cut("P P P I3", "0 0 0 1");
            // To 0, to itself, to the last one, and to none.
            cut("P P I0", "0 0 0");
            cut("G0", "0");
            cut("I2 P P", "0 1 2");
            cut("P P I3", "0 0 0");
            cut("P P G40", "0 0 0");
            // A PLAIN and a STOP have the TARGET 0, which is one anyway.
            cut("P P S", "0 0 0");
            // Those that no way comes to have TARGETS, too.
            cut("S G3 P P", "0 1 2 3");
        });

        document.says("2. Blocks", "each one right behind an IF, a GO or a STOP", () -> {
            cut("I0 P P", "0 1 1");
            cut("G0 P P", "0 1 1");
            cut("S P P", "0 1 1");
            cut("P P P", "0 0 0");
            // Behind the last one is none.
            cut("P I0", "0 0");
            cut("P G0", "0 0");
            cut("P S", "0 0");
        });
    }

    private void blocks() {
        document.says("2. Blocks",
                "A BLOCK is a LEADER with all INSTRUCTIONS up to the next LEADER", () -> {
            cut("P P S P P I1 P", "0 1 1 2 2 2 3");
            OrielChart x = CodeSentences.plains(40);
            Check.same("forty of them", x.blockOf(39), 0);
        });

        document.says("2. Blocks", "BLOCKS are numbered from 0, as they lie.", () -> {
            OrielChart y = Check.chart("P P S P P I1 P");
            Check.same("firstOf", Check.row(4, y::firstOf), "0 1 3 6");
            // Though one comes to the last one first.
            OrielChart z = Check.chart("G2 S G1");
            Check.same("firstOf", Check.row(3, z::firstOf), "0 1 2");
        });
    }

    private void edges() {
        document.says("2. Blocks",
                "An EDGE is from a BLOCK to one to which one goes from its last INSTRUCTION", () -> {
            edges("P P I1", "0>1 1>x 1>1");
            edges("P P G1", "0>1 1>1");
            edges("P G3 S P", "0>2 1>x 2>x");
        });

        document.says("2. Blocks", "or to the EXIT:", () -> {
            edges("P", "0>x");
            edges("S P", "0>x 1>x");
            edges("I40", "0>x");
        });

        document.says("2. Blocks", "the next one first, then the TARGET;", () -> {
            edges("I2 P S", "0>1 0>2 1>2 2>x");
            edges("P P I0 S", "0>1 0>0 1>x");
            edges("I0 S", "0>1 0>0 1>x");
            edges("I40 S", "0>1 0>x 1>x");
            edges("I0", "0>x 0>0");
        });
    }

    private void oneEdgeOnly() {
        document.says("2. Blocks", "it is one EDGE only, if both are the same", () -> {
            edges("I1 S", "0>1 1>x");
            edges("P I2 S", "0>1 1>x");
            OrielChart most = ifs(40);
            for (int i = 0; i < 40; i++) {
                most.setTarget(i, i + 1);
            }
            Check.same("each IF to its next: edges()", most.edges(), 40);
        });

        document.says("2. Blocks", "(or both the EXIT)", () -> {
            edges("I1", "0>x");
            edges("I2", "0>x");
            edges("I40", "0>x");
            edges("P P I3", "0>x");
            OrielChart full = CodeSentences.plains(39);
            full.insert(39, 1, 40);
            Check.same("in full code", Check.edges(full), "0>x");
        });
    }

    private void numbersOfEdges() {
        OrielChart x = Check.chart("S");
        document.says("2. Blocks", "EDGES are numbered from 0:", () -> {
            Check.same("edgeFrom(0)", x.edgeFrom(0), 0);
            Check.same("edgeTo(0)", x.edgeTo(0), -1);
            OrielChart y = Check.chart("G2 S G1");
            Check.same("edgeFrom", Check.row(3, y::edgeFrom), "0 1 2");
            Check.same("edgeTo", Check.row(3, y::edgeTo), "2 -1 1");
            Check.noPlace("edgeTo(3) of three", () -> y.edgeTo(3));
        });

        document.says("2. Blocks", "by the BLOCKS from which they go, the next one first.", () -> {
            // Neither which of them one comes to first counts, nor whether one comes to them.
            edges("I3 I0 G1 I1 S", "0>1 0>3 1>2 1>0 2>1 3>4 3>1 4>x");
            edges("G2 S I1 S", "0>2 1>x 2>3 2>1 3>x");
            edges("S I1 G1", "0>x 1>2 1>1 2>1");
        });
    }

    private void reached() {
        document.says("2. Blocks",
                "A BLOCK is REACHED, if one comes to it from the BLOCK 0 along EDGES", () -> {
            reached("S P", "1 0");
            reached("G2 P P", "1 0 1");
            reached("I2 S G1", "1 1 1");
            // Back along the code, and by many.
            reached("G3 S G1 G2", "1 1 1 1");
            // Only from one that is not reached; only from itself.
            reached("S G2 P", "1 0 0");
            reached("S G1", "1 0");
            reached("G1 S G2 G1", "1 1 0 0");
        });

        document.says("2. Blocks", "(the BLOCK 0, too)", () -> {
            reached("S", "1");
            reached("P", "1");
            // None comes back to it, but from one that is not reached.
            reached("S G0", "1 0");
        });
    }

    /** Nothing that follows may look at what is not reached. */
    private void whatIsNotReached() {
        document.says("2. Blocks",
                "All that follows is of BLOCKS that are REACHED and the EDGES between them", () -> {
            // 1 is not reached: it goes to 2, over which 0 has power alone.
            OrielChart x = Check.chart("G2 G2 P S");
            Check.same("its dominates", x.dominates(1, 2), false);
            Check.same("the other's dominates", x.dominates(0, 2), true);
            Check.same("parentOf", x.parentOf(2), 0);
            Check.same("windings()", x.windings(), 1);
            Check.same("steps", Check.steps(x), "R0");
            Check.same("left()", x.left(), 1);
            Check.same("layers", Check.layers(x), "0 | 2");
            Check.same("meanLength()", x.meanLength(), 1.0);
        });

        document.says("2. Blocks", "and to the EXIT; all else is as if it was not there.", () -> {
            // 2 and 3 are a circle into which 1 comes at both, and 1 uses what 0 sets.
            OrielChart y = Check.chart("S I3 G3 I2 G0");
            y.setUse(0, 0, 0);
            y.setUse(1, 1, 1);
            Check.same("vain()", y.vain(), 1);
            Check.same("isTame()", y.isTame(), true);
            Check.same("loops()", y.loops(), 0);
            Check.same("windings()", y.windings(), 1);
            Check.same("comesBehind(0, 0)", y.comesBehind(0, 0), true);
            Check.same("steps()", y.steps(), 0);
            Check.same("isNeat()", y.isNeat(), true);
            Check.same("layers()", y.layers(), 1);
            Check.same("points(0)", y.points(0), 1);
            Check.same("crossings()", y.crossings(), 0);
            Check.same("meanLength()", y.meanLength(), 0.0);
        });
    }

    private void askedBlocks() {
        OrielChart x = Check.chart("I3 P G0 P S P");
        OrielChart none = new OrielChart();
        OrielChart full = ifs(40);
        document.says("Promise 9", "Returns how many BLOCKS there are, REACHED or not.", () -> {
            Check.same("blocks()", x.blocks(), 4);
            Check.same("without code", none.blocks(), 0);
            Check.same("most", full.blocks(), 40);
            Check.same("least of forty", CodeSentences.plains(40).blocks(), 1);
        });

        document.says("Promise 10", "Returns its BLOCK.", () -> {
            Check.same("blockOf", Check.row(6, x::blockOf), "0 1 1 2 2 3");
            Check.same("blockOf(39)", full.blockOf(39), 39);
        });

        document.says("Promise 10", "if there is no such INSTRUCTION", () -> {
            Check.bounds("blockOf", 6, x::blockOf);
            Check.bounds("blockOf, without code", 0, none::blockOf);
            Check.bounds("blockOf, of full code", 40, full::blockOf);
        });

        document.says("Promise 11", "Returns its first INSTRUCTION.", () -> {
            Check.same("firstOf", Check.row(4, x::firstOf), "0 1 3 5");
            Check.same("firstOf(39)", full.firstOf(39), 39);
        });

        document.says("Promise 11", "if there is no such BLOCK", () -> {
            Check.bounds("firstOf", 4, x::firstOf);
            Check.bounds("firstOf, without code", 0, none::firstOf);
            Check.bounds("firstOf, of full code", 40, full::firstOf);
        });

        document.says("Promise 12", "Returns whether it is REACHED.", () -> {
            Check.same("isReached", Check.row(4, b -> x.isReached(b) ? 1 : 0), "1 1 1 0");
        });

        document.says("Promise 12", "if there is no such BLOCK", () -> {
            Check.bounds("isReached", 4, b -> x.isReached(b) ? 1 : 0);
            Check.bounds("isReached, without code", 0, b -> none.isReached(b) ? 1 : 0);
            Check.bounds("isReached, of full code", 40, b -> full.isReached(b) ? 1 : 0);
        });
    }

    private void askedEdges() {
        OrielChart x = Check.chart("I3 P G0 P S I0");
        OrielChart none = new OrielChart();
        OrielChart full = ifs(40);
        document.says("Promise 13",
                "Returns how many EDGES there are, from BLOCKS that are REACHED or not.", () -> {
            Check.same("edges()", x.edges(), 6);
            Check.same("without code", none.edges(), 0);
            Check.same("most", full.edges(), 80);
            Check.same("least of forty", CodeSentences.plains(40).edges(), 1);
        });

        document.says("Promise 14", "Returns the BLOCK from which it goes.", () -> {
            Check.same("edgeFrom", Check.row(6, x::edgeFrom), "0 0 1 2 3 3");
        });

        document.says("Promise 14", "if there is no such EDGE", () -> {
            Check.bounds("edgeFrom", 6, x::edgeFrom);
            Check.bounds("edgeFrom, without code", 0, none::edgeFrom);
            Check.bounds("edgeFrom, of full code", 80, full::edgeFrom);
        });

        document.says("Promise 15", "Returns the BLOCK to which it goes;", () -> {
            Check.same("edgeTo", Check.row(3, x::edgeTo), "1 2 0");
            Check.same("edgeTo(5)", x.edgeTo(5), 0);
        });

        document.says("Promise 15", "-1 for the EXIT.", () -> {
            Check.same("of a STOP", x.edgeTo(3), -1);
            Check.same("of an IF", x.edgeTo(4), -1);
            Check.same("of the last of full code", full.edgeTo(78), -1);
            Check.same("of a GO", Check.chart("G9").edgeTo(0), -1);
            Check.same("of a PLAIN", Check.chart("P").edgeTo(0), -1);
        });

        document.says("Promise 15", "if there is no such EDGE", () -> {
            Check.bounds("edgeTo", 6, x::edgeTo);
            Check.bounds("edgeTo, without code", 0, none::edgeTo);
            Check.bounds("edgeTo, of full code", 80, full::edgeTo);
        });
    }
}
