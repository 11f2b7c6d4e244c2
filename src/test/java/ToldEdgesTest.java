/** Promise 10, its edges. */
public final class ToldEdgesTest {
    public static void main(String[] args) {
        kindsFromTheFirstToTheLastAreTold();
        otherKindsAreBad();
        theLeastAndTheGreatestAreTold();
        otherCommitsAreBad();
        Expect.end();
    }

    // "its TIME (0), KEY (1), how many PARENTS (2), GENERATION (3), of how many HOLDERS it's a TIP (4)"
    private static void kindsFromTheFirstToTheLastAreTold() {
        AncestryNet net = Nets.mixed();
        Expect.equal("told(4, 0)", net.told(4, 0), 7);
        Expect.equal("told(4, 1)", net.told(4, 1), 2);
        Expect.equal("told(4, 2)", net.told(4, 2), 4);
        Expect.equal("told(4, 3)", net.told(4, 3), 2);
        Expect.equal("told(4, 4)", net.told(4, 4), 1);
    }

    // "another what: bad."
    private static void otherKindsAreBad() {
        AncestryNet net = Nets.mixed();
        Edges.allBad("what of the first", Edges.outside(0, 4), what -> net.told(0, what));
        Edges.allBad("what of the last", Edges.outside(0, 4), what -> net.told(4, what));
    }

    // The same sentence as the first: the ends of what each kind can be.
    private static void theLeastAndTheGreatestAreTold() {
        AncestryNet net = new AncestryNet();
        net.add(Edges.LEAST, Edges.GREATEST, -1, -1, -1);
        net.add(Edges.GREATEST, Edges.LEAST, 0, 0, 0);
        net.under(1, 0);
        net.tip(0, 1, true);
        net.tip(1, 1, true);
        int[] least = {Edges.LEAST, Edges.GREATEST, 0, 1, 0};
        int[] greatest = {Edges.GREATEST, Edges.LEAST, 4, 2, 2};
        for (int what = 0; what <= 4; what++) {
            Expect.equal("told(0, " + what + ")", net.told(0, what), least[what]);
            Expect.equal("told(1, " + what + ")", net.told(1, what), greatest[what]);
        }
    }

    // "Bad": "COMMITS that aren't there, too", whatever is asked of them.
    private static void otherCommitsAreBad() {
        AncestryNet net = Nets.mixed();
        for (int what = -1; what <= 5; what++) {
            int asked = what;
            Edges.allBad("c, asked for " + what, Edges.outside(0, 4), c -> net.told(c, asked));
        }
    }
}
