/** The sentences on reducing, and of the promises 27 to 32. */
final class ReducingSentences {
    private static final String PART = "4. Reducing";

    private final Document document;
    private final OrielChart none = new OrielChart();

    ReducingSentences(Document document) {
        this.document = document;
    }

    void all() {
        document.test(
                this::nodes, this::order, this::round, this::row, this::singleFromItsNode,
                this::singleOfBoth, this::doubleOfBoth, this::doubleGoal,
                this::edgesOfWhatComesOfSeveral, this::neat, this::askedSteps, this::askedNodes);
    }

    private static void is(String code, String steps, String ends) {
        OrielChart x = Check.chart(code);
        Check.same(code + ": steps", Check.steps(x), steps);
        Check.same(code + ": endsIn", Check.row(x.blocks(), x::endsIn), ends);
    }

    private void nodes() {
        document.says(PART, "At first each BLOCK is a NODE with its number", () -> {
            is("I3 P G0 S", "", "0 1 2");
        });

        document.says(PART, "and the EXIT is one without number, from which nothing goes;", () -> {
            is("P", "", "0");
            Check.same("left()", Check.chart("P").left(), 1);
        });

        document.says(PART, "EDGES between two NODES count once.", () -> {
            // After SINGLE, the EDGES from 0 and from 1 go to 2: one, or ROW would not hold.
            is("I2 P S", "S0 R0", "0 0 0");
            is("I3 P G4 P S", "D0 R0", "0 0 0 0");
        });
    }

    private void order() {
        document.says(PART, "As long as there is a NODE for which one of these rules holds", () -> {
            is("G1 G2 G3 G4 S", "R0 R0 R0 R0", "0 0 0 0 0");
            // The first rule holds for the greatest number only, which lets others hold.
            is("P I1 I2", "O1 R0 O2 R0", "0 0 0");
        });

        document.says(PART,
                "the one with the smallest number, and for it the first rule, is taken", () -> {
            is("I1 I1 I2", "O1 R0 O2 R0", "0 0 0");
            is("I0 I1 I2", "O0 O1 R0 O2 R0", "0 0 0");
            // Along the way, one comes to 3 ahead of 1.
            is("G3 I1 S I3 G1", "O1 R1 O3 R0 R0 R0", "0 0 0 0 0");
        });

        document.says(PART,
                "and the NODES it tells become one, with the smallest number of them", () -> {
            is("I2 G2 I5 G1 I40 G4", "R5 O4", "0 1 2 3 4 4");
            is("I3 S G4 I2 S", "S3 R2 D0", "0 0 0 0 0");
            is("I3 S G5 I2 G5 S", "D3 R2 D0", "0 0 0 0 0 0");
            is("I3 S G0 I2 G0 S", "D3", "0 1 2 2 2 -1");
        });

        document.says(PART, "(the EXIT is never one of them)", () -> {
            is("S", "", "0");
            is("I2 S", "S0", "0 0");
            is("I2 S S", "D0", "0 0 0");
        });
    }

    private void round() {
        document.says(PART, "ROUND: an EDGE goes from it to itself; this goes away.", () -> {
            is("G0", "O0", "0");
            is("I0", "O0", "0");
            is("P P I1 S", "O1 R0 R0", "0 0 0");
            is("I2 I1 S", "O1 S0 R0", "0 0 0");
            // Without the one to itself, ROW holds.
            is("I0 S", "O0 R0", "0 0");
        });
    }

    private void row() {
        document.says(PART, "ROW: just one EDGE goes from it", () -> {
            is("G1 S", "R0", "0 0");
            is("I2 G0 S", "", "0 1 2");
        });

        document.says(PART, "to another NODE, not the EXIT", () -> {
            is("P", "", "0");
            is("I1", "", "0");
        });

        document.says(PART, "and not that with the BLOCK 0 in it", () -> {
            is("I2 G0 S", "", "0 1 2");
            is("G1 I3 G0 S", "R0", "0 0 2 3");
        });

        document.says(PART, "to which no other EDGE goes: both become one.", () -> {
            is("I2 G2 I1 S", "", "0 1 2 3");
            is("I1 S", "R0", "0 0");
            // Nor one from itself, till it has gone.
            is("P I1", "O1 R0", "0 0");
            // One from what is not reached is none.
            is("G2 G2 S", "R0", "0 -1 0");
        });
    }

    private void singleFromItsNode() {
        document.says(PART, "SINGLE: just two EDGES go from it, to b and c, other ones;", () -> {
            is("I2 P S", "S0 R0", "0 0 0");
            is("I2 P", "S0", "0 0");
        });

        document.says(PART, "b (either of both)", () -> {
            is("I2 P S", "S0 R0", "0 0 0");
            is("I2 S G1", "S0 R0", "0 0 0");
        });

        document.says(PART,
                "is not the EXIT, nor the NODE with the BLOCK 0 in it, no other EDGE", () -> {
            // 1 goes to 0 and 2, and 0 goes to 2 only.
            is("G2 I0 G1", "R2 O1 R0 O0", "0 0 0");
            // But c can be both.
            is("I2 P", "S0", "0 0");
            is("I3 I0 G0 S", "S1", "0 1 1 3");
        });
    }

    private void singleOfBoth() {
        document.says(PART, "no other EDGE goes to b", () -> {
            is("I2 I3 P S", "", "0 1 2 3");
        });

        document.says(PART, "and just one goes from b", () -> {
            is("I2 I3 S S", "", "0 1 2 3");
        });

        document.says(PART, "to c: it and b become one.", () -> {
            is("I2 G3 I40 S", "", "0 1 2 3");
            is("I2 S G0", "", "0 1 2");
            // c, which is 0 here, does not.
            is("I3 I0 G0 S", "S1", "0 1 1 3");
        });
    }

    private void doubleOfBoth() {
        document.says(PART,
                "DOUBLE: just two EDGES go from it, to b and c, other ones, none the EXIT", () -> {
            is("I3 P G4 P S", "D0 R0", "0 0 0 0");
            is("I40 G0 S", "", "0 1 -1");
        });

        document.says(PART,
                "none the EXIT, nor the NODE with the BLOCK 0 in it; to each of both", () -> {
            // 1 goes to 0 and 2, which both go to 3.
            is("G3 I0 G3 G1", "R3", "0 1 2 1");
        });

        document.says(PART, "to each of both no other EDGE goes", () -> {
            is("I2 G3 P I2 S", "", "0 1 2 3 4");
            is("I2 G3 P I1 S", "", "0 1 2 3 4");
        });

        document.says(PART, "and from each just one", () -> {
            is("I2 G3 I40 S", "", "0 1 2 3");
            is("I3 I40 S G2", "", "0 1 2 3");
        });
    }

    private void doubleGoal() {
        document.says(PART, "both to the same NODE", () -> {
            is("I2 S G0", "", "0 1 2");
            is("I2 G0 S", "", "0 1 2");
            is("I2 G3 G4 G4 I3 S", "", "0 1 2 3 4 5");
        });

        document.says(PART, "none of these three", () -> {
            is("I2 G0 G0", "", "0 1 2");
            is("P I3 G1 G1", "", "0 1 2 3");
        });

        document.says(PART, "(it can be the EXIT): all three become one.", () -> {
            is("I2 S S", "D0", "0 0 0");
            // Or the NODE with the BLOCK 0.
            is("I4 I3 G0 G0 S", "D1", "0 1 1 1 4");
        });
    }

    private void edgesOfWhatComesOfSeveral() {
        document.says(PART, "A NODE that comes of several has the EDGES to and from others", () -> {
            // 0 comes to 3, which is 2 then; and 2 goes on to 4.
            is("I3 S G4 I2 S", "S3 R2 D0", "0 0 0 0 0");
            is("P I3 P I1 S", "S1 R1 O1 R0 R0", "0 0 0 0 0");
        });

        document.says(PART, "those along which it was made are gone", () -> {
            is("I1 S", "R0", "0 0");
            is("I2 P", "S0", "0 0");
            is("I2 S S", "D0", "0 0 0");
        });

        document.says(PART,
                "one back, from the second NODE of a ROW to the first, becomes one to itself", () -> {
            is("P G2 I1 S", "R1 O1 R0 R0", "0 0 0 0");
            is("I2 G2 I5 G1 I40 G4", "R5 O4", "0 1 2 3 4 4");
        });
    }

    private void neat() {
        document.says(PART,
                "The code is NEAT, if in the end there is one NODE beside the EXIT.", () -> {
            Check.same("at first", Check.chart("P").isNeat(), true);
            Check.same("in the end", Check.chart("I3 P G4 P S").isNeat(), true);
            Check.same("without a way to the EXIT", Check.chart("G0").isNeat(), true);
            Check.same("two left", Check.chart("I40 G0").isNeat(), false);
            Check.same("three left", Check.chart("I2 S G0").isNeat(), false);
            Check.same("one, and what is not reached", Check.chart("S P S P").isNeat(), true);
        });
    }

    private void askedSteps() {
        OrielChart x = Check.chart("P I3 P I1 S");
        // Forty that go to themselves and to the next one: 40 steps of ROUND, 39 of ROW.
        OrielChart full = BlocksSentences.ifs(40);
        for (int i = 0; i < 40; i++) {
            full.setTarget(i, i);
        }
        document.says("Promise 27",
                "Returns how many steps there are till no rule holds any more.", () -> {
            Check.same("steps()", x.steps(), 5);
            Check.same("stuck", Check.chart("I2 G2 I1 S").steps(), 0);
            Check.same("without code", none.steps(), 0);
            Check.same("many", full.steps(), 79);
        });

        document.says("Promise 28", "a step, from 0 on", () -> {
            Check.same("ruleOf(0)", x.ruleOf(0), 2);
        });

        document.says("Promise 28",
                "Returns by which rule it goes: 0 ROUND, 1 ROW, 2 SINGLE, 3 DOUBLE.", () -> {
            Check.same("ruleOf", Check.row(5, x::ruleOf), "2 1 0 1 1");
            Check.same("DOUBLE", Check.chart("I2 S S").ruleOf(0), 3);
        });

        document.says("Promise 28", "if there is no such step", () -> {
            Check.bounds("ruleOf", 5, x::ruleOf);
            Check.bounds("without code", 0, none::ruleOf);
            Check.bounds("of one that is stuck", 0, Check.chart("I2 G2 I1 S")::ruleOf);
            Check.bounds("of many", 79, full::ruleOf);
        });

        document.says("Promise 29",
                "Returns the number of its NODE, as it is ahead of the step.", () -> {
            Check.same("nodeOf", Check.row(5, x::nodeOf), "1 1 1 0 0");
            OrielChart y = Check.chart("I3 S G5 I2 G5 S");
            Check.same("that has a smaller one then", Check.row(3, y::nodeOf), "3 2 0");
        });

        document.says("Promise 29", "if there is no such step", () -> {
            Check.bounds("nodeOf", 5, x::nodeOf);
            Check.bounds("without code", 0, none::nodeOf);
            Check.bounds("of one that is stuck", 0, Check.chart("I2 G2 I1 S")::nodeOf);
            Check.bounds("of many", 79, full::nodeOf);
        });
    }

    private void askedNodes() {
        OrielChart x = Check.chart("I4 I3 G0 G0 S P");
        OrielChart full = BlocksSentences.ifs(40);
        document.says("Promise 30",
                "Returns how many NODES there are in the end, without the EXIT.", () -> {
            Check.same("left()", x.left(), 3);
            Check.same("one", Check.chart("I2 S S").left(), 1);
            Check.same("without code", none.left(), 0);
            for (int i = 0; i < 40; i++) {
                full.setTarget(i, i < 20 ? 39 : 0);
            }
            Check.same("forty", full.left(), 40);
        });

        document.says("Promise 31", "Returns whether the code is NEAT;", () -> {
            Check.same("neat", Check.chart("I2 S S").isNeat(), true);
            Check.same("not neat", x.isNeat(), false);
        });

        document.says("Promise 31", "false without code.", () -> {
            Check.same("isNeat()", none.isNeat(), false);
            OrielChart gone = Check.chart("P");
            gone.isNeat();
            gone.remove(0);
            Check.same("isNeat() of what is gone", gone.isNeat(), false);
        });

        document.says("Promise 32", "Returns in which NODE it is in the end: its number;", () -> {
            Check.same("endsIn", Check.row(5, x::endsIn), "0 1 1 1 4");
        });

        document.says("Promise 32", "-1 if it is not REACHED.", () -> {
            Check.same("endsIn(5)", x.endsIn(5), -1);
        });

        document.says("Promise 32", "if there is no such BLOCK", () -> {
            Check.bounds("endsIn", 6, x::endsIn);
            Check.bounds("without code", 0, none::endsIn);
            Check.bounds("of full code", 40, full::endsIn);
        });
    }
}
