/** Promise 2: add. */
public final class AddTest {
    private static final int MOST_COMMITS = 2000;

    public static void main(String[] args) {
        answersTheNumberAndKeepsWhatIsGiven();
        keepsTheParentsInOrderWithoutGaps();
        takesAParentMoreThanOnce();
        refusesWhatIsBadAndChangesNothing();
        refusesMoreThanItsRoom();
        Expect.end();
    }

    private static void answersTheNumberAndKeepsWhatIsGiven() {
        AncestryNet net = new AncestryNet();
        Expect.equal("the first add", net.add(Integer.MIN_VALUE, Integer.MAX_VALUE, -1, -1, -1), 0);
        Expect.equal("the second add", net.add(-7, -8, 0, -1, -1), 1);
        Expect.equal("the third add", net.add(-7, -8, 0, 1, -1), 2);
        Expect.equal("told(0, 0)", net.told(0, 0), Integer.MIN_VALUE);
        Expect.equal("told(0, 1)", net.told(0, 1), Integer.MAX_VALUE);
        Expect.equal("told(1, 0)", net.told(1, 0), -7);
        Expect.equal("told(1, 1)", net.told(1, 1), -8);
        Expect.equal("count(0)", net.count(0), 3);
        Expect.equal("a new commit's tips", net.told(2, 4), 0);
    }

    private static void keepsTheParentsInOrderWithoutGaps() {
        AncestryNet net = new AncestryNet();
        net.add(0, 0, -1, -1, -1);
        net.add(0, 0, -1, -1, -1);
        net.add(0, 0, -1, -1, -1);
        net.add(0, 0, -1, 2, 1);
        net.add(0, 0, -1, -1, 1);
        net.add(0, 0, 2, -1, 0);
        Expect.equal("the parents behind a gap", net.told(3, 2), 2);
        Expect.equal("the first parent behind a gap", net.back(3, 1), 2);
        Expect.equal("the parents behind two gaps", net.told(4, 2), 1);
        Expect.equal("the first parent behind two gaps", net.back(4, 1), 1);
        Expect.equal("the parents round a gap", net.told(5, 2), 2);
        Expect.equal("the first parent before a gap", net.back(5, 1), 2);
        Expect.equal("the parent behind the gap", net.reaches(5, 0), true);
        Expect.equal("no parent", net.reaches(5, 1), false);
    }

    private static void takesAParentMoreThanOnce() {
        AncestryNet net = new AncestryNet();
        net.add(0, 0, -1, -1, -1);
        net.add(0, 0, 0, 0, 0);
        Expect.equal("the same parent three times", net.told(1, 2), 3);
        Expect.equal("the generation above it", net.told(1, 3), 2);
    }

    private static void refusesWhatIsBadAndChangesNothing() {
        AncestryNet net = Nets.crossed();
        String before = Nets.allOf(net);
        Expect.bad("a below -1", () -> net.add(1, 1, -2, 0, 0));
        Expect.bad("b below -1", () -> net.add(1, 1, 0, -2, 0));
        Expect.bad("c below -1", () -> net.add(1, 1, 0, 0, -2));
        Expect.bad("a as its own parent", () -> net.add(1, 1, 6, -1, -1));
        Expect.bad("b not there", () -> net.add(1, 1, 5, 6, -1));
        Expect.bad("c not there", () -> net.add(1, 1, 5, 4, Integer.MAX_VALUE));
        Expect.bad("the least int", () -> net.add(1, 1, 5, 4, Integer.MIN_VALUE));
        Expect.equal("the net after bad adds", Nets.allOf(net), before);
        Expect.equal("the next number", net.add(1, 1, 4, 5, -1), 6);
    }

    // Past the 512th call nothing is promised; the room's limit is kept there all the same.
    private static void refusesMoreThanItsRoom() {
        AncestryNet net = Nets.line(MOST_COMMITS);
        Expect.equal("the full net's commits", net.count(0), MOST_COMMITS);
        Expect.refused("one too many", () -> net.add(1, 1, -1, -1, -1));
        Expect.bad("bad comes before full", () -> net.add(1, 1, MOST_COMMITS, -1, -1));
        Expect.equal("the commits after that", net.count(0), MOST_COMMITS);
        answersOverTheWholeRoom(net);
    }

    private static void answersOverTheWholeRoom(AncestryNet net) {
        int last = MOST_COMMITS - 1;
        net.tip(0, last, true);
        net.tip(1, 0, true);
        Expect.equal("the full net's counts", Nets.countsOf(net), "2000 1 1 2000 1 1 0");
        Expect.equal("the last one's log", net.log(last, last), 0);
        Expect.equal("the bases of the last two", Nets.basesOf(net, last, last - 1), "1998");
        Expect.equal("the commits sent", net.sent(0, -1), last);
        Expect.equal("the last one sent", net.sent(0, last - 1), last);
        Expect.equal("the way back", net.back(last, last), 0);
        Expect.equal("one more under the last", net.under(last, 0), 2);
    }
}
