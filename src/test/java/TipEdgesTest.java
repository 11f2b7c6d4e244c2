/** Promise 4, its edges. */
public final class TipEdgesTest {
    public static void main(String[] args) {
        bothHoldersAreLetIn();
        otherHoldersAreBad();
        theFirstAndTheLastCommitAreLetIn();
        otherCommitsAreBad();
        whatIsNoTipMayBeTakenBack();
        whatIsATipMayBecomeOneAgain();
        Expect.end();
    }

    // "HOLDER h (0, 1)"
    private static void bothHoldersAreLetIn() {
        AncestryNet net = Nets.roots(1);
        net.tip(0, 0, true);
        Expect.equal("the tips after holder 0", net.count(1) + " " + net.count(2), "1 0");
        net.tip(1, 0, true);
        Expect.equal("the tips after holder 1", net.count(1) + " " + net.count(2), "1 1");
        Expect.equal("told(0, 4)", net.told(0, 4), 2);
    }

    // The same sentence: no other.
    private static void otherHoldersAreBad() {
        AncestryNet net = Nets.mixed();
        String before = Nets.allOf(net);
        Edges.allBad("a tip of holder", Edges.outside(0, 1), h -> net.tip(h, 2, true));
        Edges.allBad("no tip of holder", Edges.outside(0, 1), h -> net.tip(h, 3, false));
        Expect.equal("all that it answers after that", Nets.allOf(net), before);
    }

    // "COMMIT c is a TIP": from 0 to the newest.
    private static void theFirstAndTheLastCommitAreLetIn() {
        AncestryNet net = Nets.roots(3);
        net.tip(0, 0, true);
        net.tip(0, 2, true);
        Expect.equal("what holder 0 sends", Nets.sentFrom(net, 0), "0 2");
    }

    // "Bad": "COMMITS that aren't there, too".
    private static void otherCommitsAreBad() {
        AncestryNet net = Nets.mixed();
        String before = Nets.allOf(net);
        Edges.allBad("a tip", Edges.outside(0, 4), c -> net.tip(0, c, true));
        Edges.allBad("no tip", Edges.outside(0, 4), c -> net.tip(1, c, false));
        Expect.equal("all that it answers after that", Nets.allOf(net), before);
        Expect.equal("the next one is no tip", net.told(net.add(0, 0, -1, -1, -1), 4), 0);
    }

    // "or isn't": also where it wasn't.
    private static void whatIsNoTipMayBeTakenBack() {
        AncestryNet net = Nets.mixed();
        String before = Nets.allOf(net);
        net.tip(0, 0, false);
        net.tip(0, 4, false);
        net.tip(1, 3, false);
        Expect.equal("all that it answers after that", Nets.allOf(net), before);
    }

    // "is a TIP": also where it was; taken back once, it isn't any more.
    private static void whatIsATipMayBecomeOneAgain() {
        AncestryNet net = Nets.mixed();
        String before = Nets.allOf(net);
        net.tip(0, 3, true);
        net.tip(1, 4, true);
        Expect.equal("all that it answers after that", Nets.allOf(net), before);
        net.tip(0, 3, false);
        Expect.equal("told(3, 4) after it was taken back", net.told(3, 4), 0);
        Expect.equal("what is sent then", Nets.sentFrom(net, 0), "");
    }
}
