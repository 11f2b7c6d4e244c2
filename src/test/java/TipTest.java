/** Promise 4: tip. */
public final class TipTest {
    public static void main(String[] args) {
        setsAndTakesBackForEachHolderAlone();
        sayingItTwiceChangesNothing();
        refusesWhatIsBadAndChangesNothing();
        Expect.end();
    }

    private static void setsAndTakesBackForEachHolderAlone() {
        AncestryNet net = Nets.crossed();
        net.tip(0, 3, true);
        net.tip(1, 3, true);
        net.tip(1, 0, true);
        Expect.equal("tips of holder 0", net.count(1), 1);
        Expect.equal("tips of holder 1", net.count(2), 2);
        Expect.equal("holders with the tip 3", net.told(3, 4), 2);
        Expect.equal("holders with the tip 0", net.told(0, 4), 1);
        net.tip(0, 3, false);
        Expect.equal("tips of holder 0 then", net.count(1), 0);
        Expect.equal("tips of holder 1 then", net.count(2), 2);
        Expect.equal("holders with the tip 3 then", net.told(3, 4), 1);
        net.tip(1, 3, false);
        Expect.equal("holders with the tip 3 at last", net.told(3, 4), 0);
        Expect.equal("tips of holder 1 at last", net.count(2), 1);
    }

    private static void sayingItTwiceChangesNothing() {
        AncestryNet net = Nets.crossed();
        net.tip(0, 2, false);
        Expect.equal("what was no tip", net.count(1), 0);
        net.tip(0, 2, true);
        net.tip(0, 2, true);
        Expect.equal("a tip twice", net.count(1), 1);
        net.tip(0, 2, false);
        Expect.equal("no tip any more", net.count(1), 0);
        Expect.equal("told of it", net.told(2, 4), 0);
    }

    private static void refusesWhatIsBadAndChangesNothing() {
        AncestryNet net = Nets.crossed();
        net.tip(0, 1, true);
        net.tip(1, 2, true);
        String before = Nets.allOf(net);
        Expect.bad("holder 2", () -> net.tip(2, 0, true));
        Expect.bad("holder -1", () -> net.tip(-1, 0, true));
        Expect.bad("holder 2, taken back", () -> net.tip(2, 2, false));
        Expect.bad("commit 6", () -> net.tip(0, 6, true));
        Expect.bad("commit -1", () -> net.tip(1, -1, false));
        Expect.equal("the net after that", Nets.allOf(net), before);
    }
}
