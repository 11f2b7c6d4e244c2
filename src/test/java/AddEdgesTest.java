/** Promise 2, its edges. */
public final class AddEdgesTest {
    private static final int MOST_COMMITS = 2000;

    public static void main(String[] args) {
        anyIntIsATimeAndAKey();
        noneLeavesNoPlace();
        parentsFromTheFirstToTheLastAreLetIn();
        otherParentsAreBad();
        theRoomHasAnEnd();
        badComesBeforeTheRoomsEnd();
        Expect.end();
    }

    // "A COMMIT with that TIME and KEY comes to be"
    private static void anyIntIsATimeAndAKey() {
        int[] ints = {Edges.LEAST, Edges.LEAST + 1, -1, 0, 1, Edges.GREATEST - 1, Edges.GREATEST};
        AncestryNet net = new AncestryNet();
        for (int time : ints) {
            for (int key : ints) {
                int c = net.add(time, key, -1, -1, -1);
                Expect.equal("the time", net.told(c, 0), time);
                Expect.equal("the key", net.told(c, 1), key);
            }
        }
        Expect.equal("the first commit's time at the end", net.told(0, 0), Edges.LEAST);
        Expect.equal("the first commit's key at the end", net.told(0, 1), Edges.LEAST);
    }

    // "-1 for none (of each; those that are none leave no place)"
    private static void noneLeavesNoPlace() {
        expectParents(-1, -1, -1, 0, -1);
        expectParents(2, -1, -1, 1, 2);
        expectParents(-1, 2, -1, 1, 2);
        expectParents(-1, -1, 2, 1, 2);
        expectParents(2, 1, -1, 2, 2);
        expectParents(2, -1, 1, 2, 2);
        expectParents(-1, 2, 1, 2, 2);
        expectParents(2, 1, 0, 3, 2);
    }

    /** Adds to three roots; what under can give until there are four parents shows that no place is lost. */
    private static void expectParents(int a, int b, int c, int howMany, int first) {
        String call = "add(0, 0, " + a + ", " + b + ", " + c + ")";
        AncestryNet net = Nets.roots(3);
        int number = net.add(0, 0, a, b, c);
        Expect.equal(call + "'s number", number, 3);
        Expect.equal(call + "'s parents", net.told(number, 2), howMany);
        Expect.equal(call + "'s log", net.log(number, -1), 1 + howMany);
        Expect.equal(call + "'s generation", net.told(number, 3), howMany == 0 ? 1 : 2);
        Expect.equal("the commits that are no parents after " + call, net.count(4), 4 - howMany);
        if (howMany == 0) {
            Expect.notThere(call + "'s first parent", () -> net.back(number, 1));
        } else {
            Expect.equal(call + "'s first parent", net.back(number, 1), first);
        }
        for (int parents = howMany + 1; parents <= 4; parents++) {
            Expect.equal("one more after " + call, net.under(number, 0), parents);
        }
        Expect.refused("a fifth after " + call, () -> net.under(number, 0));
    }

    // "with the PARENTS a, b, c": each from 0 to the newest.
    private static void parentsFromTheFirstToTheLastAreLetIn() {
        AncestryNet net = Nets.line(2);
        Expect.equal("the first as a", net.back(net.add(0, 0, 0, -1, -1), 1), 0);
        Expect.equal("the first as b", net.back(net.add(0, 0, -1, 0, -1), 1), 0);
        Expect.equal("the first as c", net.back(net.add(0, 0, -1, -1, 0), 1), 0);
        Expect.equal("the newest as a", net.back(net.add(0, 0, 4, -1, -1), 1), 4);
        Expect.equal("the newest as b", net.back(net.add(0, 0, -1, 5, -1), 1), 5);
        Expect.equal("the newest as c", net.back(net.add(0, 0, -1, -1, 6), 1), 6);
    }

    // "Bad": below -1, and from the number that the new one would get.
    private static void otherParentsAreBad() {
        AncestryNet net = Nets.mixed();
        String before = Nets.allOf(net);
        int[] wrong = Edges.outside(-1, 4);
        Edges.allBad("a", wrong, a -> net.add(9, 9, a, -1, -1));
        Edges.allBad("b", wrong, b -> net.add(9, 9, 3, b, -1));
        Edges.allBad("c", wrong, c -> net.add(9, 9, 3, 4, c));
        Expect.equal("all that it answers after bad adds", Nets.allOf(net), before);
        Expect.equal("the next", net.add(9, 9, 4, 3, 0), 5);
    }

    // "2000 are there: IllegalStateException". Past the 512th call nothing is promised; this holds there, too.
    private static void theRoomHasAnEnd() {
        AncestryNet net = Nets.line(MOST_COMMITS - 1);
        Expect.equal("the 2000th", net.add(3, 4, MOST_COMMITS - 2, -1, -1), MOST_COMMITS - 1);
        String before = Nets.countsOf(net);
        Expect.refused("the 2001st as a root", () -> net.add(1, 1, -1, -1, -1));
        Expect.refused("the 2001st with parents", () -> net.add(1, 1, 0, MOST_COMMITS - 1, 1));
        Expect.equal("the counts after that", Nets.countsOf(net), before);
        Expect.equal("the last one's time", net.told(MOST_COMMITS - 1, 0), 3);
        Expect.equal("the last one's key", net.told(MOST_COMMITS - 1, 1), 4);
        Expect.equal("the last one's parents", net.told(MOST_COMMITS - 1, 2), 1);
        Expect.equal("the last one can still get one", net.under(MOST_COMMITS - 1, 0), 2);
    }

    // "after bad"
    private static void badComesBeforeTheRoomsEnd() {
        AncestryNet net = Nets.line(MOST_COMMITS);
        int[] wrong = Edges.outside(-1, MOST_COMMITS - 1);
        Edges.allBad("a, in a full net", wrong, a -> net.add(1, 1, a, -1, -1));
        Edges.allBad("b, in a full net", wrong, b -> net.add(1, 1, -1, b, -1));
        Edges.allBad("c, in a full net", wrong, c -> net.add(1, 1, -1, -1, c));
    }
}
