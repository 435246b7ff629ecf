/** Promises 9 to 15: how code is parted into blocks, and the edges between them. */
public final class BlocksTest {
    public static void main(String[] args) {
        parting();
        edgesOfEachKind();
        codeThatIsNotReached();
        blocksFollowTheCode();
        wrongNumbers();
        Check.finish();
    }

    private static void is(String code, String home, String first, String reached, String edges) {
        OrielChart x = Check.chart(code);
        Check.same(code + ": blockOf", Check.row(x.instructions(), x::blockOf), home);
        Check.same(code + ": firstOf", Check.row(x.blocks(), x::firstOf), first);
        Check.same(code + ": isReached", Check.row(x.blocks(), b -> x.isReached(b) ? 1 : 0), reached);
        Check.same(code + ": edges", Check.edges(x), edges);
    }

    private static void parting() {
        is("P", "0", "0", "1", "0>x");
        is("P P P", "0 0 0", "0", "1", "0>x");
        is("I3 P G0 S", "0 1 1 2", "0 1 3", "1 1 1", "0>1 0>2 1>0 2>x");
        is("P P I1 S", "0 1 1 2", "0 1 3", "1 1 1", "0>1 1>2 1>1 2>x");
        is("P S P P", "0 0 1 1", "0 2", "1 0", "0>x 1>x");
    }

    private static void edgesOfEachKind() {
        is("I1 S", "0 1", "0 1", "1 1", "0>1 1>x");
        is("I5", "0", "0", "1", "0>x");
        is("I1", "0", "0", "1", "0>x");
        is("I0", "0", "0", "1", "0>x 0>0");
        is("I40 P", "0 1", "0 1", "1 1", "0>1 0>x 1>x");
        is("G0", "0", "0", "1", "0>0");
        is("G1", "0", "0", "1", "0>x");
        is("G2 P", "0 1", "0 1", "1 0", "0>x 1>x");
        is("G1 P", "0 1", "0 1", "1 1", "0>1 1>x");
        is("P I0", "0 0", "0", "1", "0>x 0>0");
    }

    private static void codeThatIsNotReached() {
        is("G3 P S P", "0 1 1 2", "0 1 3", "1 0 1", "0>2 1>x 2>x");
        is("S G3 P P", "0 1 2 3", "0 1 2 3", "1 0 0 0", "0>x 1>3 2>3 3>x");
        is("S I1 G1", "0 1 2", "0 1 2", "1 0 0", "0>x 1>2 1>1 2>1");
    }

    private static void blocksFollowTheCode() {
        OrielChart x = Check.chart("P G1");
        Check.same("blocks()", x.blocks(), 2);
        x.setTarget(1, 0);
        Check.same("blocks() after setTarget()", x.blocks(), 1);
        x.insert(2, 0, 0);
        Check.same("blocks() after insert()", x.blocks(), 2);
        Check.same("isReached(1) after insert()", x.isReached(1), false);
        x.remove(1);
        Check.same("blocks() after remove()", x.blocks(), 1);
        Check.same("edges() after remove()", Check.edges(x), "0>x");

        OrielChart full = new OrielChart();
        for (int i = 0; i < 40; i++) {
            full.insert(i, 1, 0);
        }
        Check.same("most blocks", full.blocks(), 40);
        Check.same("most edges", full.edges(), 80);
        Check.same("edgeFrom(79)", full.edgeFrom(79), 39);
        Check.same("edgeTo(78)", full.edgeTo(78), -1);
        Check.same("edgeTo(79)", full.edgeTo(79), 0);
    }

    private static void wrongNumbers() {
        OrielChart x = Check.chart("I3 P G0 S");
        Check.noPlace("blockOf(-1)", () -> x.blockOf(-1));
        Check.noPlace("blockOf(4)", () -> x.blockOf(4));
        Check.noPlace("firstOf(-1)", () -> x.firstOf(-1));
        Check.noPlace("firstOf(3)", () -> x.firstOf(3));
        Check.noPlace("isReached(-1)", () -> x.isReached(-1));
        Check.noPlace("isReached(3)", () -> x.isReached(3));
        Check.noPlace("edgeFrom(-1)", () -> x.edgeFrom(-1));
        Check.noPlace("edgeFrom(4)", () -> x.edgeFrom(4));
        Check.noPlace("edgeTo(-1)", () -> x.edgeTo(-1));
        Check.noPlace("edgeTo(4)", () -> x.edgeTo(4));
        Check.noPlace("edgeTo of extremes", () -> x.edgeTo(Integer.MIN_VALUE));
    }
}
