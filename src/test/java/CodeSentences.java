/** The sentences on an object as a whole, on code, and of the promises 1 to 8. */
final class CodeSentences {
    private static final int LEAST = Integer.MIN_VALUE;
    private static final int MOST = Integer.MAX_VALUE;

    private final Document document;

    CodeSentences(Document document) {
        this.document = document;
    }

    void all() {
        document.test(
                this::lifeOfAnObject, this::whatIsAskedIsAsOfNow, this::refusedCallsChangeNothing,
                this::firstNamedException, this::numbersOfInstructions, this::kindsAndTargets,
                this::variables, this::wayOn, this::wayToTheExit, this::newObject,
                this::insertPlaces, this::insertMovesTargets, this::insertTakesItsOwnTarget,
                this::insertRefuses, this::remove, this::removeMovesTargets, this::setTarget,
                this::setUse, this::readers);
    }

    static OrielChart plains(int many) {
        OrielChart x = new OrielChart();
        for (int i = 0; i < many; i++) {
            x.insert(i, 0, 0);
        }
        return x;
    }

    /** Code of P, I, G and S only, to see what lies where. */
    private static String kinds(OrielChart x) {
        return Check.code(x).replaceAll("[0-9 ]", "");
    }

    private void lifeOfAnObject() {
        document.says("What it is",
                "An object is used for at most 512 calls after it has been made", () -> {
            OrielChart x = new OrielChart();
            int[] targets = new int[40];
            for (int i = 0; i < 40; i++) {
                x.insert(i, 1, 40);
                targets[i] = 40;
            }
            for (int call = 40; call < 511; call++) {
                targets[call % 40] = call * 7 % 41;
                x.setTarget(call % 40, call * 7 % 41);
            }
            OrielChart y = plains(0);
            for (int i = 0; i < 40; i++) {
                y.insert(i, 1, 0);
            }
            for (int i = 0; i < 40; i++) {
                y.setTarget(i, targets[i]);
            }
            Check.same("digest() as the 512th call", x.digest(), y.digest());
        });
    }

    private void whatIsAskedIsAsOfNow() {
        document.says("Terms", "Whatever is asked is as of now.", () -> {
            isAsOfNow("insert()", x -> x.insert(1, 1, 4), Check.chart("I4 I4 P G0 S"));
            isAsOfNow("remove()", x -> x.remove(1), Check.chart("I2 G0 S"));
            isAsOfNow("setTarget()", x -> x.setTarget(0, 1), Check.chart("I1 P G0 S"));
            OrielChart y = Check.chart("I3 P G0 S");
            y.setUse(1, 1, 6);
            isAsOfNow("setUse()", x -> x.setUse(1, 1, 6), y);
            OrielChart z = Check.chart("G2 P");
            Check.same("a TARGET of M", Check.edges(z), "0>x 1>x");
            z.insert(2, 0, 0);
            Check.same("the same TARGET, no more of M", Check.edges(z), "0>2 1>2 2>x");
            z.remove(2);
            Check.same("the same TARGET, of M again", Check.edges(z), "0>x 1>x");
        });

        document.says("Terms",
                "Sets are told as numbers: the sum of 1 << k for each k in it.", () -> {
            OrielChart u = Check.chart("P");
            u.setUse(0, -1, 1 + 8 + 128);
            Check.same("0, 3 and 7", u.liveIn(0), 137);
        });
    }

    private interface Change {
        void of(OrielChart x);
    }

    /** One that was asked for all ahead of the change answers like one that was made so. */
    private static void isAsOfNow(String what, Change change, OrielChart due) {
        OrielChart x = Check.chart("I3 P G0 S");
        Check.all(x);
        change.of(x);
        Check.same("after " + what, Check.all(x), Check.all(due));
    }

    /** Swept once, so that what begins the drawing anew is seen. */
    private static OrielChart swept() {
        OrielChart x = Check.chart("I3 I5 S G2 P S");
        x.setUse(0, 0, 2);
        x.setUse(1, 1, 1);
        x.sweep(1);
        return x;
    }

    private static void changesNothing(String what, Class<?> due, Change refused) {
        OrielChart x = swept();
        String before = Check.all(x);
        Check.refuses(what, due, () -> refused.of(x));
        Check.same(what + " changes nothing", Check.all(x), before);
        // What it would have changed may be seen only when all is worked out anew.
        OrielChart one = swept();
        OrielChart other = swept();
        Check.refuses(what, due, () -> refused.of(other));
        one.setTarget(3, 4);
        other.setTarget(3, 4);
        Check.same(what + " changes nothing of what follows", Check.all(other), Check.all(one));
    }

    private void refusedCallsChangeNothing() {
        document.says("5. Drawing", "A method that throws an exception changes nothing.", () -> {
            Class<?> place = IndexOutOfBoundsException.class;
            Class<?> argument = IllegalArgumentException.class;
            changesNothing("insert(-1, 0, 0)", argument, x -> x.insert(-1, 0, 0));
            changesNothing("insert(7, 0, 0)", argument, x -> x.insert(7, 0, 0));
            changesNothing("insert(0, 4, 0)", argument, x -> x.insert(0, 4, 0));
            changesNothing("insert(0, 1, 41)", argument, x -> x.insert(0, 1, 41));
            changesNothing("remove(-1)", place, x -> x.remove(-1));
            changesNothing("remove(6)", place, x -> x.remove(6));
            changesNothing("setTarget(6, 0)", place, x -> x.setTarget(6, 0));
            changesNothing("setTarget(2, 4), of a STOP", argument, x -> x.setTarget(2, 4));
            changesNothing("setTarget(4, 1), of a PLAIN", argument, x -> x.setTarget(4, 1));
            changesNothing("setTarget(0, 41)", argument, x -> x.setTarget(0, 41));
            changesNothing("setUse(6, 0, 0)", place, x -> x.setUse(6, 0, 0));
            changesNothing("setUse(0, 8, 0)", argument, x -> x.setUse(0, 8, 0));
            changesNothing("setUse(0, -1, 256)", argument, x -> x.setUse(0, -1, 256));
            changesNothing("sweep(0)", argument, x -> x.sweep(0));
            changesNothing("sweep(21)", argument, x -> x.sweep(21));
            changesNothing("wouldCross(0)", argument, x -> x.wouldCross(0));
            changesNothing("wouldCross(21)", argument, x -> x.wouldCross(21));
            refusedReadersChangeNothing();

            OrielChart full = plains(40);
            full.setUse(39, 3, 5);
            full.sweep(1);
            String fullBefore = Check.all(full);
            Check.noState("insert(0, 2, 5)", () -> full.insert(0, 2, 5));
            Check.same("insert() to full code", Check.all(full), fullBefore);
        });
    }

    private static void refusedReadersChangeNothing() {
        OrielChart x = swept();
        String before = Check.all(x);
        Check.Ask[] all = {
            x::kindOf, x::targetOf, x::blockOf, x::firstOf, b -> x.isReached(b) ? 1 : 0, x::edgeFrom,
            x::edgeTo, b -> x.dominates(b, 0) ? 1 : 0, b -> x.dominates(0, b) ? 1 : 0, x::parentOf,
            b -> x.comesBehind(b, 0) ? 1 : 0, b -> x.comesBehind(0, b) ? 1 : 0,
            e -> x.isBack(e) ? 1 : 0, x::loopSize, x::depthOf, x::liveIn, x::ruleOf, x::nodeOf,
            x::endsIn, x::layerOf, e -> x.isTurned(e) ? 1 : 0, x::points, l -> x.pointAt(l, 0),
            p -> x.pointAt(0, p), x::placeOf, x::bends, e -> x.bendAt(e, 0), k -> x.bendAt(0, k)};
        for (Check.Ask ask : all) {
            Check.noPlace("asked for -1", () -> ask.of(-1));
            Check.noPlace("asked for 99", () -> ask.of(99));
        }
        Check.same("what is asked for, but not there", Check.all(x), before);
    }

    private void firstNamedException() {
        document.says("5. Drawing",
                "If several exceptions apply, the one that is named first is thrown.", () -> {
            OrielChart full = plains(40);
            Check.noArgument("place, of full code", () -> full.insert(-1, 0, 0));
            Check.noArgument("place, of full code", () -> full.insert(41, 0, 0));
            Check.noArgument("kind, of full code", () -> full.insert(0, -1, 0));
            Check.noArgument("kind, of full code", () -> full.insert(0, 4, 0));
            Check.noArgument("target, of full code", () -> full.insert(0, 1, -1));
            Check.noArgument("target, of full code", () -> full.insert(0, 2, 41));
            Check.noState("a target that is not looked at", () -> full.insert(0, 0, 41));
            OrielChart x = Check.chart("P I0");
            Check.noPlace("setTarget: instruction, and target", () -> x.setTarget(2, 41));
            Check.noPlace("setTarget: instruction, and target", () -> x.setTarget(-1, -1));
            Check.noPlace("setUse: instruction, and sets", () -> x.setUse(2, 8, 0));
            Check.noPlace("setUse: instruction, and uses", () -> x.setUse(-1, 0, 256));
        });
    }

    private void numbersOfInstructions() {
        document.says("1. Code", "At most 40 INSTRUCTIONS", () -> {
            OrielChart x = plains(39);
            Check.same("the 40th", x.insert(39, 3, 0), 40);
            Check.noState("the 41st", () -> x.insert(40, 0, 0));
            Check.same("instructions()", x.instructions(), 40);
        });

        document.says("1. Code", "numbered from 0, in a row, M of them", () -> {
            OrielChart y = Check.chart("S I0 G1 P");
            Check.same("kindOf", Check.row(4, y::kindOf), "3 1 2 0");
            Check.noPlace("kindOf(M)", () -> y.kindOf(4));
        });
    }

    private void kindsAndTargets() {
        document.says("1. Code", "each has a kind: 0 PLAIN, 1 IF, 2 GO, 3 STOP", () -> {
            String[] edges = {"0>x", "0>1 0>2 1>2 2>x", "0>2 1>2 2>x", "0>x 1>x"};
            for (int kind = 0; kind < 4; kind++) {
                OrielChart x = plains(2);
                x.insert(0, kind, 2);
                Check.same("kind " + kind, Check.edges(x), edges[kind]);
            }
        });

        document.says("1. Code", "a TARGET, 0 to 40", () -> {
            for (int kind = 1; kind <= 2; kind++) {
                OrielChart x = new OrielChart();
                x.insert(0, kind, 40);
                x.insert(1, kind, 0);
                Check.same("the ends, as told", Check.row(2, x::targetOf), "40 0");
                x.setTarget(0, 0);
                x.setTarget(1, 40);
                Check.same("the ends, as set", Check.row(2, x::targetOf), "0 40");
            }
        });

        document.says("1. Code", "(0 of PLAIN and STOP)", () -> {
            OrielChart x = new OrielChart();
            x.insert(0, 0, 7);
            x.insert(1, 3, 40);
            Check.same("targetOf", Check.row(2, x::targetOf), "0 0");
            x.insert(0, 0, 1);
            x.insert(0, 3, 1);
            x.remove(1);
            Check.same("targetOf, moved", Check.row(3, x::targetOf), "0 0 0");
        });
    }

    private void variables() {
        document.says("1. Code", "a variable that it sets, -1 for none or 0 to 7", () -> {
            OrielChart x = Check.chart("P P");
            x.setUse(1, -1, 255);
            Check.same("not yet", x.liveIn(0), 255);
            for (int v = -1; v <= 7; v++) {
                x.setUse(0, v, 0);
                Check.same("sets " + v, x.liveIn(0), v < 0 ? 255 : 255 - (1 << v));
            }
        });

        document.says("1. Code", "and a set of variables, 0 to 255, that it uses", () -> {
            OrielChart y = Check.chart("P");
            for (int uses : new int[] {255, 0, 128, 1}) {
                y.setUse(0, -1, uses);
                Check.same("uses " + uses, y.liveIn(0), uses);
            }
        });
    }

    private void wayOn() {
        document.says("1. Code", "From a PLAIN one goes to the next INSTRUCTION", () -> {
            Check.same("PLAIN", Check.edges(Check.chart("P P I1")), "0>1 1>x 1>1");
        });

        document.says("1. Code", "from an IF to the next one and to its TARGET", () -> {
            Check.same("IF", Check.edges(Check.chart("I2 P S")), "0>1 0>2 1>2 2>x");
        });

        document.says("1. Code", "from a GO to its TARGET", () -> {
            Check.same("GO", Check.edges(Check.chart("G2 P S")), "0>2 1>2 2>x");
        });

        document.says("1. Code", "from a STOP, and", () -> {
            Check.same("STOP", Check.edges(Check.chart("S P S")), "0>x 1>x");
        });
    }

    private void wayToTheExit() {
        document.says("1. Code", "from any to a number of M or more, to the EXIT", () -> {
            Check.same("PLAIN, the last", Check.edges(Check.chart("P")), "0>x");
            Check.same("IF, the last", Check.edges(Check.chart("I0")), "0>x 0>0");
            Check.same("IF to M - 1", Check.edges(Check.chart("I2 P S")), "0>1 0>2 1>2 2>x");
            Check.same("GO to M - 1", Check.edges(Check.chart("G2 P S")), "0>2 1>2 2>x");
            for (int target : new int[] {3, 4, 39, 40}) {
                OrielChart jump = Check.chart("I" + target + " P S");
                Check.same("IF to " + target, Check.edges(jump), "0>1 0>x 1>x");
                OrielChart go = Check.chart("G" + target + " P S");
                Check.same("GO to " + target, Check.edges(go), "0>x 1>x");
            }
            OrielChart x = plains(39);
            x.insert(0, 2, 39);
            Check.same("GO to 39 of 40", Check.edges(x), "0>2 1>2 2>x");
            x.setTarget(0, 40);
            Check.same("GO to 40 of 40", Check.edges(x), "0>x 1>x");
        });
    }

    private void newObject() {
        document.says("Promise 1", "Creates a visualiser without code.", () -> {
            OrielChart x = new OrielChart();
            Check.same("instructions()", x.instructions(), 0);
            Check.same("blocks()", x.blocks(), 0);
            Check.same("edges()", x.edges(), 0);
            Check.same("loops()", x.loops(), 0);
            Check.same("isTame()", x.isTame(), true);
            Check.same("vain()", x.vain(), 0);
            Check.same("windings()", x.windings(), 0);
            Check.same("steps()", x.steps(), 0);
            Check.same("left()", x.left(), 0);
            Check.same("isNeat()", x.isNeat(), false);
            Check.same("layers()", x.layers(), 0);
            Check.same("crossings()", x.crossings(), 0);
            Check.same("wouldCross(1)", x.wouldCross(1), 0);
            Check.same("swept()", x.swept(), 0);
            Check.same("meanLength()", x.meanLength(), 0.0);
            Check.same("sweep(1)", x.sweep(1), 0);
            OrielChart gone = Check.chart("I0 G0");
            gone.digest();
            gone.remove(0);
            gone.remove(0);
            Check.same("code that is gone", Check.all(gone), Check.all(new OrielChart()));
        });
    }

    private void insertPlaces() {
        document.says("Promise 2", "Adds an INSTRUCTION at a place", () -> {
            OrielChart x = Check.chart("P P");
            x.insert(0, 3, 0);
            x.insert(3, 1, 0);
            x.insert(2, 2, 0);
            Check.same("first, last, between", kinds(x), "SPGPI");
        });

        document.says("Promise 2", "those from there on have one more from then on", () -> {
            OrielChart y = Check.chart("S I40 G0");
            y.setUse(1, -1, 2);
            y.insert(1, 0, 0);
            Check.same("kinds", kinds(y), "SPIG");
            Check.same("targets", Check.row(4, y::targetOf), "0 0 40 0");
            Check.same("variables of the one from there on", y.setUse(2, -1, 0), 2);
        });

        document.says("Promise 2", "It sets and uses no variable.", () -> {
            OrielChart z = Check.chart("P P");
            z.setUse(0, 3, 8);
            z.setUse(1, 4, 16);
            z.insert(1, 0, 0);
            Check.same("those that are set in vain", z.vain(), 2);
            Check.same("what is used at first", z.liveIn(0), 24);
            Check.same("what it used", z.setUse(1, -1, 0), 0);
            z.setUse(2, -1, 255);
            z.remove(0);
            Check.same("it sets none of all", z.liveIn(0), 255);
            OrielChart last = Check.chart("P");
            last.setUse(0, 5, 6);
            last.remove(0);
            last.insert(0, 0, 0);
            Check.same("where one was removed: sets", last.vain(), 0);
            Check.same("where one was removed: uses", last.setUse(0, -1, 0), 0);
        });

        document.says("Promise 2", "Returns how many there are then.", () -> {
            OrielChart n = new OrielChart();
            for (int i = 1; i <= 40; i++) {
                Check.same("insert()", n.insert(0, 0, 0), i);
            }
        });
    }

    private void insertMovesTargets() {
        document.says("Promise 2", "and so have TARGETS that are greater than the place", () -> {
            OrielChart x = Check.chart("I1 G2 I3 P");
            x.insert(2, 0, 0);
            Check.same("less, the same, greater", Check.code(x), "I1 G2 P I4 P");
            x.insert(0, 0, 0);
            Check.same("all greater", Check.code(x), "P I2 G3 P I5 P");
            OrielChart y = Check.chart("I0 G2 I3");
            y.insert(0, 3, 0);
            Check.same("the TARGET 0", Check.code(y), "S I0 G3 I4");
            OrielChart z = Check.chart("I1 G2 I3");
            z.insert(3, 3, 0);
            Check.same("at M, the TARGET M", Check.code(z), "I1 G2 I3 S");
            OrielChart u = Check.chart("G4 I5");
            u.insert(2, 3, 0);
            Check.same("at M, TARGETS of more than M", Check.code(u), "G5 I6 S");
        });

        document.says("Promise 2", "(but none becomes 41)", () -> {
            OrielChart v = Check.chart("I38 G39 I40 G40");
            v.insert(0, 0, 0);
            Check.same("once", Check.code(v), "P I39 G40 I40 G40");
            v.insert(5, 0, 0);
            Check.same("twice", Check.code(v), "P I40 G40 I40 G40 P");
            v.insert(0, 3, 0);
            Check.same("for good", Check.code(v), "S P I40 G40 I40 G40 P");
        });
    }

    private void insertTakesItsOwnTarget() {
        document.says("Promise 2", "its TARGET (not looked at for PLAIN and STOP)", () -> {
            for (int target : new int[] {-1, 41, LEAST, MOST}) {
                OrielChart x = new OrielChart();
                Check.same("PLAIN", x.insert(0, 0, target), 1);
                Check.same("STOP", x.insert(1, 3, target), 2);
                Check.same("targetOf", Check.row(2, x::targetOf), "0 0");
                Check.same("blocks()", x.blocks(), 1);
            }
        });

        document.says("Promise 2", "just as it is told", () -> {
            OrielChart x = Check.chart("P P P");
            x.insert(1, 1, 3);
            Check.same("greater than the place", x.targetOf(1), 3);
            x.insert(1, 2, 1);
            Check.same("the place", x.targetOf(1), 1);
            x.insert(1, 2, 0);
            Check.same("less than the place", x.targetOf(1), 0);
            x.insert(1, 2, 40);
            Check.same("40", x.targetOf(1), 40);
            Check.same("all", Check.code(x), "P G40 G0 G1 I6 P P");
        });
    }

    private void insertRefuses() {
        document.says("Promise 2", "its number", () -> {
            for (int m = 0; m < 40; m += 13) {
                for (int place = 0; place <= m; place++) {
                    OrielChart x = plains(m);
                    x.insert(place, 3, 0);
                    Check.same("kindOf the new one of " + m, x.kindOf(place), 3);
                }
            }
        });

        document.says("Promise 2", "place is not 0 to M", () -> {
            for (int m : new int[] {0, 1, 3, 39}) {
                OrielChart x = plains(m);
                for (int place : new int[] {-1, m + 1, LEAST, MOST}) {
                    Check.noArgument(place + " of " + m, () -> x.insert(place, 0, 0));
                }
                Check.same("0 is taken", x.insert(0, 3, 0), m + 1);
                OrielChart y = plains(m);
                Check.same("M is taken", y.insert(m, 3, 0), m + 1);
            }
        });

        OrielChart k = new OrielChart();
        document.says("Promise 2", "its kind", () -> {
            for (int kind = 3; kind >= 0; kind--) {
                Check.same("kind " + kind, k.insert(0, kind, 0), 4 - kind);
            }
            Check.same("kindOf", Check.row(4, k::kindOf), "0 1 2 3");
        });

        document.says("Promise 2", "kind is not 0 to 3", () -> {
            for (int kind : new int[] {-1, 4, LEAST, MOST}) {
                Check.noArgument("kind " + kind, () -> k.insert(0, kind, 0));
            }
        });

        document.says("Promise 2", "or target, of an IF or GO, is not 0 to 40", () -> {
            for (int kind = 1; kind <= 2; kind++) {
                int jump = kind;
                for (int target : new int[] {-1, 41, LEAST, MOST}) {
                    Check.noArgument("target " + target, () -> k.insert(0, jump, target));
                }
                OrielChart x = new OrielChart();
                Check.same("target 0", x.insert(0, kind, 0), 1);
                Check.same("target 40", x.insert(0, kind, 40), 2);
            }
        });

        document.says("Promise 2", "Throws `IllegalStateException` if there are 40", () -> {
            OrielChart full = plains(39);
            full.insert(0, 0, 0);
            for (int kind = 0; kind < 4; kind++) {
                int any = kind;
                Check.noState("the first, kind " + kind, () -> full.insert(0, any, 40));
                Check.noState("the last, kind " + kind, () -> full.insert(40, any, 0));
            }
            full.remove(0);
            Check.same("40 again", full.insert(39, 2, 40), 40);
        });
    }

    private void remove() {
        document.says("Promise 3", "Removes an INSTRUCTION", () -> {
            OrielChart x = Check.chart("P I40 G40 S P");
            x.remove(2);
            Check.same("one between", kinds(x), "PISP");
            x.remove(0);
            Check.same("the first", kinds(x), "ISP");
            x.remove(2);
            Check.same("the last", kinds(x), "IS");
        });

        document.says("Promise 3", "those behind it have one less from then on", () -> {
            OrielChart y = Check.chart("S P I40 G0");
            y.setUse(0, -1, 1);
            y.setUse(2, -1, 4);
            y.remove(1);
            Check.same("kinds", kinds(y), "SIG");
            Check.same("variables ahead", y.setUse(0, -1, 0), 1);
            Check.same("variables behind", y.setUse(1, -1, 0), 4);
            OrielChart z = Check.chart("P P P");
            z.setUse(2, -1, 2);
            z.setUse(1, 1, 0);
            Check.same("what the second sets is used", z.vain(), 0);
            z.remove(0);
            Check.same("as the first, too", z.liveIn(0), 0);
        });

        document.says("Promise 3", "Returns how many there are then.", () -> {
            OrielChart n = plains(40);
            for (int i = 39; i >= 0; i--) {
                Check.same("remove()", n.remove(i / 2), i);
            }
        });

        document.says("Promise 3", "if there is no such INSTRUCTION", () -> {
            for (int m : new int[] {0, 1, 3, 40}) {
                OrielChart u = plains(m);
                for (int instruction : new int[] {-1, m, LEAST, MOST}) {
                    Check.noPlace(instruction + " of " + m, () -> u.remove(instruction));
                }
            }
            Check.same("the last of 40", plains(40).remove(39), 39);
            Check.same("the first of 40", plains(40).remove(0), 39);
        });
    }

    private void removeMovesTargets() {
        document.says("Promise 3", "and so have TARGETS that are greater than its number", () -> {
            OrielChart x = Check.chart("I1 P P G2 I3 G4");
            x.remove(2);
            Check.same("less, the same, greater", Check.code(x), "I1 P G2 I2 G3");
            OrielChart y = Check.chart("P I0 G1 I2");
            y.remove(0);
            Check.same("the TARGET 0", Check.code(y), "I0 G0 I1");
            OrielChart z = Check.chart("I2 G3 P");
            z.remove(2);
            Check.same("M, when the last goes", Check.code(z), "I2 G2");
            OrielChart u = Check.chart("I39 G40 P");
            u.remove(2);
            Check.same("the TARGET 40", Check.code(u), "I38 G39");
            OrielChart v = Check.chart("G1 G40");
            v.remove(0);
            Check.same("its own TARGET goes with it", Check.code(v), "G39");
        });
    }

    private void setTarget() {
        OrielChart x = new OrielChart();
        for (int kind : new int[] {1, 2, 0, 3}) {
            x.insert(x.instructions(), kind, 0);
        }
        document.says("Promise 4", "an IF or GO", () -> {
            Check.same("an IF", x.setTarget(0, 3), 0);
            Check.same("a GO", x.setTarget(1, 2), 0);
        });

        document.says("Promise 4", "its TARGET from now on", () -> {
            Check.same("targetOf", Check.row(4, x::targetOf), "3 2 0 0");
            Check.same("edges", Check.edges(x), "0>1 0>3 1>2 2>3 3>x");
        });

        document.says("Promise 4", "Returns the one before.", () -> {
            Check.same("to 40", x.setTarget(0, 40), 3);
            Check.same("to the same", x.setTarget(0, 40), 40);
            Check.same("to 0", x.setTarget(0, 0), 40);
            Check.same("again", x.setTarget(0, 1), 0);
        });

        OrielChart forty = BlocksSentences.ifs(40);
        document.says("Promise 4", "if there is no such INSTRUCTION", () -> {
            for (int instruction : new int[] {-1, 4, LEAST, MOST}) {
                Check.noPlace("of " + instruction, () -> x.setTarget(instruction, 0));
            }
            Check.noPlace("of 0, without code", () -> new OrielChart().setTarget(0, 0));
            Check.bounds("of IFs", 40, i -> forty.setTarget(i, 1));
        });

        document.says("Promise 4", "if it is neither an IF nor a GO", () -> {
            Check.noArgument("a PLAIN", () -> x.setTarget(2, 0));
            Check.noArgument("a STOP", () -> x.setTarget(3, 0));
        });

        document.says("Promise 4", "or target is not 0 to 40", () -> {
            for (int target : new int[] {-1, 41, LEAST, MOST}) {
                Check.noArgument("an IF to " + target, () -> x.setTarget(0, target));
                Check.noArgument("a GO to " + target, () -> x.setTarget(1, target));
            }
            for (int k = 0; k < 2; k++) {
                x.setTarget(k, 0);
                Check.same("0 is taken", x.setTarget(k, 40), 0);
                Check.same("40 is taken", x.setTarget(k, 0), 40);
            }
        });
    }

    private void setUse() {
        OrielChart x = Check.chart("P S");
        document.says("Promise 5", "the variable that it sets from now on, -1 for none", () -> {
            x.setUse(0, 0, 0);
            Check.same("0, in vain", x.vain(), 1);
            x.setUse(0, 7, 0);
            Check.same("7, in vain", x.vain(), 1);
            x.setUse(0, -1, 0);
            Check.same("none", x.vain(), 0);
        });

        document.says("Promise 5", "the set of those that it uses from now on", () -> {
            x.setUse(1, 2, 255);
            Check.same("255", x.liveIn(0), 255);
            x.setUse(1, 2, 4);
            Check.same("4", x.liveIn(0), 4);
            x.setUse(1, 2, 0);
            Check.same("0", x.liveIn(0), 0);
        });

        OrielChart y = Check.chart("I0 G0 P S");
        document.says("Promise 5", "Returns the set that it used before.", () -> {
            for (int i = 0; i < 4; i++) {
                Check.same("at first", y.setUse(i, 1, 255 - i), 0);
            }
            for (int i = 0; i < 4; i++) {
                Check.same("then", y.setUse(i, 1, 0), 255 - i);
                Check.same("at last", y.setUse(i, -1, 9), 0);
            }
        });

        OrielChart forty = plains(40);
        document.says("Promise 5", "if there is no such INSTRUCTION", () -> {
            for (int instruction : new int[] {-1, 4, LEAST, MOST}) {
                Check.noPlace("of " + instruction, () -> y.setUse(instruction, 0, 0));
            }
            Check.noPlace("of 0, without code", () -> new OrielChart().setUse(0, 0, 0));
            Check.bounds("of PLAINs", 40, i -> forty.setUse(i, 1, 1));
        });

        document.says("Promise 5", "if sets is not -1 to 7", () -> {
            for (int sets : new int[] {-2, 8, LEAST, MOST}) {
                Check.noArgument("sets " + sets, () -> y.setUse(0, sets, 0));
            }
            Check.same("-1 is taken", y.setUse(0, -1, 1), 9);
            Check.same("7 is taken", y.setUse(0, 7, 2), 1);
        });

        document.says("Promise 5", "or uses is not 0 to 255", () -> {
            for (int uses : new int[] {-1, 256, LEAST, MOST}) {
                Check.noArgument("uses " + uses, () -> y.setUse(0, 0, uses));
            }
            Check.same("0 is taken", y.setUse(0, 0, 0), 2);
            Check.same("255 is taken", y.setUse(0, 0, 255), 0);
            Check.same("255 was taken", y.setUse(0, 0, 0), 255);
        });
    }

    private void readers() {
        OrielChart x = Check.chart("S P I40 G0");
        document.says("Promise 6", "Returns M.", () -> {
            Check.same("none", new OrielChart().instructions(), 0);
            Check.same("one", plains(1).instructions(), 1);
            Check.same("all", plains(40).instructions(), 40);

        });

        document.says("Promise 7", "Returns its kind.", () -> {
            Check.same("kindOf", Check.row(4, x::kindOf), "3 0 1 2");
        });

        document.says("Promise 7", "if there is no such INSTRUCTION", () -> {
            Check.bounds("kindOf", 4, x::kindOf);
            Check.bounds("kindOf, without code", 0, new OrielChart()::kindOf);
            Check.bounds("kindOf, of full code", 40, plains(40)::kindOf);
        });

        document.says("Promise 8", "Returns its TARGET.", () -> {
            Check.same("targetOf", Check.row(4, x::targetOf), "0 0 40 0");
        });

        document.says("Promise 8", "if there is no such INSTRUCTION", () -> {
            Check.bounds("targetOf", 4, x::targetOf);
            Check.bounds("targetOf, without code", 0, new OrielChart()::targetOf);
            Check.bounds("targetOf, of full code", 40, plains(40)::targetOf);
        });
    }
}
