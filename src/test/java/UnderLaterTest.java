import java.util.Arrays;

/**
 * Promise 3 together with the others: after under, what "Terms" says of REACHABLE and GENERATION
 * holds of all COMMITS, for each question that is asked later.
 */
public final class UnderLaterTest {
    private static final int NONE = -1;

    /** For each commit its parents in order: a root, its two children, two merges, and one that has a parent twice. */
    private static final int[][] PARENTS = {{}, {0}, {0}, {1, 2}, {2, 1, 0}, {4, 4, 3}};

    private interface Builder {
        AncestryNet build();
    }

    public static void main(String[] args) {
        theWayThatParentsCameHasNoSay();
        questionsAskedBeforeHaveNoSay();
        reachableHoldsForEachQuestion();
        generationHoldsForEachQuestion();
        whatComesOnTopLaterSeesIt();
        theOthersStayAsTheyAre();
        Expect.end();
    }

    private static void theWayThatParentsCameHasNoSay() {
        String due = Nets.allOf(byAddAlone());
        expectAll("with the last parent by under", due, () -> withSomeByUnder(1));
        expectAll("with the last two by under", due, () -> withSomeByUnder(2));
        expectAll("with all by under", due, () -> withSomeByUnder(3));
    }

    private static AncestryNet byAddAlone() {
        return withSomeByUnder(0);
    }

    /** The net of PARENTS: of each commit's parents the last ones, as many as told, are given by under. */
    private static AncestryNet withSomeByUnder(int howMany) {
        AncestryNet net = new AncestryNet();
        for (int[] parents : PARENTS) {
            int byAdd = Math.max(0, parents.length - howMany);
            int number = addOver(net, Arrays.copyOf(parents, byAdd));
            for (int place = byAdd; place < parents.length; place++) {
                Expect.equal("under(" + number + ", " + parents[place] + ")", net.under(number, parents[place]), place + 1);
            }
        }
        net.tip(0, 5, true);
        net.tip(1, 2, true);
        return net;
    }

    private static int addOver(AncestryNet net, int[] parents) {
        int[] places = {NONE, NONE, NONE};
        System.arraycopy(parents, 0, places, 0, parents.length);
        int number = net.count(0);
        return net.add(7 * number % 5, -number % 3, places[0], places[1], places[2]);
    }

    private static void expectAll(String what, String due, Builder builder) {
        Expect.equal("all answers of a net " + what, Nets.allOf(builder.build()), due);
    }

    // An answer that was kept from before under would show itself after it.
    private static void questionsAskedBeforeHaveNoSay() {
        AncestryNet asked = rootsWithTips();
        Nets.allOf(asked);
        putInALine(asked);
        AncestryNet unasked = rootsWithTips();
        putInALine(unasked);
        Expect.equal("all answers after questions", Nets.allOf(asked), Nets.allOf(unasked));
        Expect.equal("the counts", Nets.countsOf(asked), "4 1 1 4 1 2 0");
    }

    private static AncestryNet rootsWithTips() {
        AncestryNet net = Nets.roots(4);
        net.tip(0, 3, true);
        net.tip(1, 1, true);
        return net;
    }

    private static void putInALine(AncestryNet net) {
        net.under(1, 0);
        net.under(2, 1);
        net.under(3, 2);
    }

    // "REACHABLE from a COMMIT: itself, and all REACHABLE from its PARENTS."
    private static void reachableHoldsForEachQuestion() {
        AncestryNet net = Nets.crossed();
        net.tip(0, 5, true);
        net.tip(1, 4, true);
        Expect.equal("reaches(5, 4) before", net.reaches(5, 4), false);
        Expect.equal("the bases of 5 and 4 before", Nets.basesOf(net, 5, 4), "2 1");
        net.under(5, 4);
        Expect.equal("reaches(5, 4)", net.reaches(5, 4), true);
        Expect.equal("reaches(4, 5)", net.reaches(4, 5), false);
        Expect.equal("the bases of 5 and 4", Nets.basesOf(net, 5, 4), "4");
        Expect.equal("the bases of 4 and 5", Nets.basesOf(net, 4, 5), "4");
        Expect.equal("the log of 5", Nets.logOf(net, 5), "5 4 3 2 1 0");
        Expect.equal("the way back, along the first parent", Nets.wayBackOf(net, 5), "5 3 1 0");
        Expect.equal("sent from 0", Nets.sentFrom(net, 0), "3 5");
        Expect.equal("sent from 1", Nets.sentFrom(net, 1), "");
        Expect.equal("the counts", Nets.countsOf(net), "6 1 1 4 1 4 0");
    }

    // "GENERATION: 1 without PARENTS, else 1 more than the greatest of theirs."
    private static void generationHoldsForEachQuestion() {
        AncestryNet net = Nets.line(3);
        int late = net.add(0, Edges.LEAST, NONE, NONE, NONE);
        net.tip(1, 2, true);
        net.tip(1, late, true);
        expectGeneration(net, late, 1, 3, "3 0 1 2");
        net.under(late, 0);
        expectGeneration(net, late, 2, 3, "0 3 1 2");
        net.under(late, 2);
        expectGeneration(net, late, 4, 4, "0 1 2 3");
        net.under(late, 1);
        expectGeneration(net, late, 4, 4, "0 1 2 3");
    }

    private static void expectGeneration(AncestryNet net, int c, int generation, int greatest, String sent) {
        Expect.equal("its generation", net.told(c, 3), generation);
        Expect.equal("the greatest generation", net.count(3), greatest);
        Expect.equal("what is sent", Nets.sentFrom(net, 1), sent);
    }

    // The same two sentences, of commits that came after under.
    private static void whatComesOnTopLaterSeesIt() {
        AncestryNet net = Nets.line(3);
        int late = net.add(0, 0, NONE, NONE, NONE);
        net.under(late, 2);
        int child = net.add(0, 0, late, NONE, NONE);
        int grandchild = net.add(0, 0, NONE, NONE, child);
        Expect.equal("the child's generation", net.told(child, 3), 5);
        Expect.equal("the grandchild's generation", net.told(grandchild, 3), 6);
        Expect.equal("reaches from the grandchild", net.reaches(grandchild, 0), true);
        Expect.equal("the grandchild's log", Nets.logOf(net, grandchild), "5 4 3 2 1 0");
        Expect.equal("the grandchild's way back", Nets.wayBackOf(net, grandchild), "5 4 3 2 1 0");
        Expect.refused("one more under what is a parent now", () -> net.under(late, 0));
        Expect.equal("one more under the grandchild", net.under(grandchild, 0), 2);
        Expect.equal("its generation after that", net.told(grandchild, 3), 6);
    }

    // "COMMIT c gets p": no other one has more parents, reaches more or is of another generation.
    private static void theOthersStayAsTheyAre() {
        AncestryNet net = Nets.crossed();
        String[] before = othersOf(net, 5);
        net.under(5, 4);
        net.under(5, 0);
        Expect.equal("the others", Arrays.asList(othersOf(net, 5)), Arrays.asList(before));
    }

    private static String[] othersOf(AncestryNet net, int c) {
        String[] others = new String[c];
        for (int other = 0; other < c; other++) {
            others[other] = net.told(other, 2) + " parents, generation " + net.told(other, 3)
                    + ", log " + Nets.logOf(net, other) + ", back " + Nets.wayBackOf(net, other);
        }
        return others;
    }
}
