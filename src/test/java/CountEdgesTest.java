/** Promise 11, its edges. */
public final class CountEdgesTest {
    public static void main(String[] args) {
        otherKindsAreMinusOne();
        anEmptyNetCountsNothing();
        oneRootCountsAsOne();
        greatestGenerationNeedNotBeTheLast();
        parentsCountOnce();
        commonIsWhatBothHave();
        misplacedOnesAreNever();
        Expect.end();
    }

    // "else -1."
    private static void otherKindsAreMinusOne() {
        AncestryNet empty = new AncestryNet();
        AncestryNet net = Nets.mixed();
        for (int what : Edges.outside(0, 6)) {
            Expect.equal("count(" + what + ") of an empty net", empty.count(what), -1);
            Expect.equal("count(" + what + ")", net.count(what), -1);
        }
    }

    // "COMMITS (0), TIPS of HOLDER 0 and 1 (1, 2), the greatest GENERATION (3), .." of none.
    private static void anEmptyNetCountsNothing() {
        Expect.equal("the counts of an empty net", Nets.countsOf(new AncestryNet()), "0 0 0 0 0 0 0");
    }

    // The same sentence, of one.
    private static void oneRootCountsAsOne() {
        AncestryNet net = Nets.roots(1);
        Expect.equal("the counts of one root", Nets.countsOf(net), "1 0 0 1 1 0 0");
        net.tip(0, 0, true);
        Expect.equal("the counts with a tip of 0", Nets.countsOf(net), "1 1 0 1 1 0 0");
        net.tip(1, 0, true);
        Expect.equal("the counts with a tip of both", Nets.countsOf(net), "1 1 1 1 1 1 0");
        net.tip(0, 0, false);
        Expect.equal("the counts with a tip of 1", Nets.countsOf(net), "1 0 1 1 1 0 0");
    }

    // "the greatest GENERATION (3)"
    private static void greatestGenerationNeedNotBeTheLast() {
        AncestryNet net = Nets.line(3);
        net.add(0, 0, -1, -1, -1);
        Expect.equal("before a root", net.count(3), 3);
        net.under(3, 2);
        Expect.equal("after it was put on top", net.count(3), 4);
    }

    // "COMMITS that are no PARENT (4)": one that is a parent four times, or of two, is one.
    private static void parentsCountOnce() {
        AncestryNet net = Nets.roots(2);
        Expect.equal("of roots", net.count(4), 2);
        net.add(0, 0, 0, 0, 0);
        Expect.equal("after a child of one root", net.count(4), 2);
        net.under(2, 0);
        Expect.equal("after the same parent again", net.count(4), 2);
        net.add(0, 0, 0, -1, -1);
        Expect.equal("after another child of that root", net.count(4), 3);
        net.under(3, 1);
        Expect.equal("after the other root became a parent", net.count(4), 2);
    }

    // "COMMITS that are COMMON (5)"
    private static void commonIsWhatBothHave() {
        AncestryNet net = Nets.mixed();
        Expect.equal("of mixed ones", net.count(5), 2);
        net.tip(1, 4, false);
        Expect.equal("without tips of holder 1", net.count(5), 0);
        net.tip(1, 3, true);
        Expect.equal("with all that holder 0 has", net.count(5), 4);
    }

    // "what there must never be: COMMITS with a PARENT that isn't below them (6)", refused or not.
    private static void misplacedOnesAreNever() {
        AncestryNet net = Nets.mixed();
        Expect.bad("under itself", () -> net.under(3, 3));
        Expect.bad("under a later one", () -> net.under(3, 4));
        Expect.bad("above itself", () -> net.add(0, 0, 5, -1, -1));
        Expect.equal("count(6)", net.count(6), 0);
        net.under(3, 2);
        net.add(0, 0, 4, 3, 2);
        Expect.equal("count(6) with more parents", net.count(6), 0);
    }
}
