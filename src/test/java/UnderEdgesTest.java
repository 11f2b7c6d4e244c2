/** Promise 3, its edges. */
public final class UnderEdgesTest {
    public static void main(String[] args) {
        everyNumberBelowIsLetIn();
        whatIsNotBelowIsBad();
        whatIsNotThereIsBad();
        nothingIsBelowTheFirst();
        itMayBeAParentAlready();
        whatIsAParentGetsNone();
        otherParentsDoNotHinder();
        fourAreTheMost();
        badComesBeforeTheState();
        Expect.end();
    }

    // "p, below c": from 0 to c - 1.
    private static void everyNumberBelowIsLetIn() {
        AncestryNet net = Nets.roots(4);
        Expect.equal("under(3, 0)", net.under(3, 0), 1);
        Expect.equal("under(3, 1)", net.under(3, 1), 2);
        Expect.equal("under(3, 2)", net.under(3, 2), 3);
        AncestryNet two = Nets.roots(2);
        Expect.equal("under(1, 0)", two.under(1, 0), 1);
    }

    // "(else bad": c itself, ones above it that are there, and all others.
    private static void whatIsNotBelowIsBad() {
        AncestryNet net = Nets.roots(4);
        String before = Nets.allOf(net);
        Edges.allBad("p under 1", Edges.outside(0, 0), p -> net.under(1, p));
        Expect.bad("under(1, 2)", () -> net.under(1, 2));
        Expect.bad("under(1, 3)", () -> net.under(1, 3));
        Edges.allBad("p under 3", Edges.outside(0, 2), p -> net.under(3, p));
        Expect.equal("all that it answers after that", Nets.allOf(net), before);
    }

    // "Bad": "COMMITS that aren't there, too", as c; p is then below c, or not there either.
    private static void whatIsNotThereIsBad() {
        AncestryNet net = Nets.roots(4);
        String before = Nets.allOf(net);
        Edges.allBad("c over 0", Edges.outside(0, 3), c -> net.under(c, 0));
        Edges.allBad("c over the number below it", Edges.outside(0, 3), c -> net.under(c, c - 1));
        Edges.allBad("c over itself", Edges.outside(0, 3), c -> net.under(c, c));
        Expect.equal("all that it answers after that", Nets.allOf(net), before);
        Expect.equal("the last that is there", net.under(3, 2), 1);
    }

    // "p, below c", where c is 0.
    private static void nothingIsBelowTheFirst() {
        AncestryNet net = Nets.roots(2);
        Edges.allBad("p under 0", Edges.outside(0, -1), p -> net.under(0, p));
        Expect.bad("under(0, 1)", () -> net.under(0, 1));
        Expect.equal("the first one's parents", net.told(0, 2), 0);
    }

    // "it may be a PARENT of c already"
    private static void itMayBeAParentAlready() {
        AncestryNet net = Nets.roots(2);
        for (int parents = 1; parents <= 4; parents++) {
            Expect.equal("under(1, 0)", net.under(1, 0), parents);
            Expect.equal("told(1, 2)", net.told(1, 2), parents);
        }
        Expect.equal("the log", Nets.logOf(net, 1), "1 0");
        Expect.equal("the bases", Nets.basesOf(net, 1, 0), "0");
    }

    // "if it isn't a PARENT of any itself; else": whichever way it came to be one.
    private static void whatIsAParentGetsNone() {
        expectNoneUnder("the parent a", net -> net.add(0, 0, 1, -1, -1));
        expectNoneUnder("the parent b", net -> net.add(0, 0, 2, 1, -1));
        expectNoneUnder("the parent c", net -> net.add(0, 0, 2, 2, 1));
        expectNoneUnder("the parent by under", net -> net.under(2, 1));
    }

    private interface Change {
        void of(AncestryNet net);
    }

    private static void expectNoneUnder(String what, Change makesOneAParent) {
        AncestryNet net = Nets.roots(3);
        Expect.equal("before it is " + what, net.under(1, 0), 1);
        makesOneAParent.of(net);
        String before = Nets.allOf(net);
        Expect.refused("under " + what, () -> net.under(1, 0));
        Expect.equal("all that it answers after that", Nets.allOf(net), before);
    }

    // The same: what p is a parent of has no say, and neither has what else is a parent.
    private static void otherParentsDoNotHinder() {
        AncestryNet net = Nets.line(3);
        int c = net.add(0, 0, 1, -1, -1);
        Expect.equal("a parent of others as p", net.under(c, 0), 2);
        Expect.equal("one that is no parent as p", net.under(c, 2), 3);
        net.add(0, 0, 2, 1, 0);
        Expect.equal("after a sibling came", net.under(c, 2), 4);
    }

    // "or with four PARENTS: IllegalStateException": given by under alone, and by add at first.
    private static void fourAreTheMost() {
        for (int byAdd = 0; byAdd <= 3; byAdd++) {
            AncestryNet net = Nets.roots(2);
            int c = net.add(0, 0, byAdd > 0 ? 0 : -1, byAdd > 1 ? 0 : -1, byAdd > 2 ? 0 : -1);
            for (int parents = byAdd + 1; parents <= 4; parents++) {
                Expect.equal("one more of " + byAdd, net.under(c, 0), parents);
            }
            String before = Nets.allOf(net);
            Expect.refused("a fifth that is one already", () -> net.under(c, 0));
            Expect.refused("a fifth that is none yet", () -> net.under(c, 1));
            Expect.equal("all that it answers after that", Nets.allOf(net), before);
        }
    }

    // "Bad" is told of the numbers, before the state is looked at.
    private static void badComesBeforeTheState() {
        AncestryNet net = Nets.mixed();
        Edges.allBad("p under one with four parents", Edges.outside(0, 3), p -> net.under(4, p));
        Edges.allBad("p under a parent", Edges.outside(0, 1), p -> net.under(2, p));
        Expect.refused("a good one under one with four parents", () -> net.under(4, 3));
        Expect.refused("a good one under a parent", () -> net.under(2, 1));
    }
}
