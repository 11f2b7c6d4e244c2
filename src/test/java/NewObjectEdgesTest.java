/** Promise 1, its edge: the empty net. */
public final class NewObjectEdgesTest {
    public static void main(String[] args) {
        countsNothing();
        hasNoCommitToAskFor();
        sendsNothing();
        takesNoParentAtFirst();
        Expect.end();
    }

    // "Without COMMITS."
    private static void countsNothing() {
        AncestryNet net = new AncestryNet();
        Expect.equal("its counts", Nets.countsOf(net), "0 0 0 0 0 0 0");
        Expect.equal("count(7)", net.count(7), -1);
    }

    // The same sentence: no number is one of a commit, 0 neither.
    private static void hasNoCommitToAskFor() {
        AncestryNet net = new AncestryNet();
        int[] all = Edges.outside(0, -1);
        Edges.allBad("told", all, c -> net.told(c, 0));
        Edges.allBad("log", all, c -> net.log(c, -1));
        Edges.allBad("back", all, c -> net.back(c, 0));
        Edges.allBad("base", all, c -> net.base(c, c, -1));
        Edges.allBad("reaches", all, c -> net.reaches(c, c));
        Edges.allBad("tip", all, c -> net.tip(0, c, true));
        Edges.allBad("tip taken back", all, c -> net.tip(1, c, false));
        Edges.allBad("under", all, c -> net.under(c, c));
        Edges.allBad("under it", all, c -> net.under(c, c - 1));
        Expect.equal("all that it answers then", Nets.allOf(net), Nets.allOf(new AncestryNet()));
    }

    // The same sentence: a holder of nothing sends nothing.
    private static void sendsNothing() {
        AncestryNet net = new AncestryNet();
        for (int h = 0; h <= 1; h++) {
            int holder = h;
            Expect.equal("sent(" + h + ", -1)", net.sent(h, -1), 0);
            Edges.allNotThere("sent from " + h, Edges.outside(-1, -1), i -> net.sent(holder, i));
        }
    }

    // The same sentence: the first commit has no parent, the second may have the first.
    private static void takesNoParentAtFirst() {
        AncestryNet net = new AncestryNet();
        Edges.allBad("add with a", Edges.outside(-1, -1), a -> net.add(1, 1, a, -1, -1));
        Expect.equal("its counts then", Nets.countsOf(net), "0 0 0 0 0 0 0");
        Expect.equal("the first add", net.add(1, 1, -1, -1, -1), 0);
        Expect.equal("the second add", net.add(1, 1, 0, 0, 0), 1);
    }
}
