/** "Terms", their edges. What each call refuses is tested with its promise. */
public final class TermsEdgesTest {
    private static final int MOST_COMMITS = 2000;

    public static void main(String[] args) {
        numbersRunFromZeroToTheLastOfTheRoom();
        fourParentsAndNoFifth();
        parentsKeepTheirOrder();
        oneMayBeAParentMoreThanOnce();
        generationIsOneWithoutParents();
        generationIsOneMoreThanTheGreatest();
        theGreaterTimeComesFirst();
        ofEqualTimesTheLesserKeyComesFirst();
        ofEqualKeysTheLesserNumberComesFirst();
        noneIsATipAtFirst();
        basesMayBeNoneOrTheCommitItself();
        aLogMayBeTheCommitAlone();
        commonAndSentMayBeEmpty();
        Expect.end();
    }

    // "COMMITS have numbers 0, 1, 2 .., at most 2000". Past the 512th call nothing is promised; this holds there, too.
    private static void numbersRunFromZeroToTheLastOfTheRoom() {
        AncestryNet net = new AncestryNet();
        for (int number = 0; number < MOST_COMMITS; number++) {
            Expect.equal("the number of the next", net.add(0, 0, -1, -1, number - 1), number);
        }
        Expect.refused("the 2001st", () -> net.add(0, 0, -1, -1, -1));
        Expect.equal("count(0)", net.count(0), MOST_COMMITS);
    }

    // "up to four PARENTS"
    private static void fourParentsAndNoFifth() {
        AncestryNet net = Nets.roots(5);
        int c = net.add(0, 0, 0, 1, 2);
        Expect.equal("parents by add", net.told(c, 2), 3);
        Expect.equal("the fourth", net.under(c, 3), 4);
        Expect.refused("a fifth", () -> net.under(c, 4));
        Expect.equal("parents after that", net.told(c, 2), 4);
        Expect.equal("the fourth is reached", net.reaches(c, 3), true);
        Expect.equal("the fifth isn't", net.reaches(c, 4), false);
        Expect.equal("its log", Nets.logOf(net, c), "5 0 1 2 3");
    }

    // "in order": the first is the one that came first, wherever it stood and whatever its number is.
    private static void parentsKeepTheirOrder() {
        AncestryNet net = Nets.roots(3);
        Expect.equal("by add", net.back(net.add(0, 0, 2, 0, 1), 1), 2);
        int late = net.add(0, 0, -1, -1, -1);
        net.under(late, 1);
        net.under(late, 0);
        net.under(late, 2);
        Expect.equal("by under", net.back(late, 1), 1);
    }

    // "(one may be there more than once)": it counts as a parent each time, and is one commit all the same.
    private static void oneMayBeAParentMoreThanOnce() {
        AncestryNet net = Nets.roots(1);
        int c = net.add(0, 0, 0, 0, 0);
        Expect.equal("three times by add", net.told(c, 2), 3);
        Expect.equal("a fourth time", net.under(c, 0), 4);
        Expect.refused("a fifth time", () -> net.under(c, 0));
        Expect.equal("its generation", net.told(c, 3), 2);
        Expect.equal("its log", Nets.logOf(net, c), "1 0");
        Expect.equal("the commits that are no parent", net.count(4), 1);
        net.tip(0, c, true);
        Expect.equal("what is sent", Nets.sentFrom(net, 0), "0 1");
    }

    // "GENERATION: 1 without PARENTS"
    private static void generationIsOneWithoutParents() {
        AncestryNet net = Nets.line(3);
        int root = net.add(0, 0, -1, -1, -1);
        Expect.equal("the first commit's", net.told(0, 3), 1);
        Expect.equal("a later root's", net.told(root, 3), 1);
        net.under(root, 0);
        Expect.equal("the later root's with a parent", net.told(root, 3), 2);
    }

    // "else 1 more than the greatest of theirs": at each of the four places.
    private static void generationIsOneMoreThanTheGreatest() {
        AncestryNet net = Nets.line(4);
        Expect.equal("the greatest as a", net.told(net.add(0, 0, 3, 0, 1), 3), 5);
        Expect.equal("the greatest as b", net.told(net.add(0, 0, 0, 3, 1), 3), 5);
        int c = net.add(0, 0, 0, 1, 3);
        Expect.equal("the greatest as c", net.told(c, 3), 5);
        net.under(c, 0);
        Expect.equal("a lesser one by under", net.told(c, 3), 5);
        net.under(5, 4);
        Expect.equal("the greatest by under", net.told(5, 3), 6);
    }

    // "the greater TIME first": neighbours at the ends of all ints and round 0, and ends that are far apart.
    private static void theGreaterTimeComesFirst() {
        int[] rising = {
            Edges.LEAST, Edges.LEAST + 1, -1, 0, 1, Edges.GREATEST - 1, Edges.GREATEST
        };
        AncestryNet net = new AncestryNet();
        for (int time : rising) {
            net.add(time, 0, -1, -1, -1);
        }
        expectOrder(net, "6 5 4 3 2 1 0");
    }

    // "of equal ones the lesser KEY (an int, with its sign, given with each COMMIT)"
    private static void ofEqualTimesTheLesserKeyComesFirst() {
        int[] falling = {
            Edges.GREATEST, Edges.GREATEST - 1, 1, 0, -1, Edges.LEAST + 1, Edges.LEAST
        };
        AncestryNet net = new AncestryNet();
        for (int key : falling) {
            net.add(Edges.GREATEST - 1, key, -1, -1, -1);
        }
        expectOrder(net, "6 5 4 3 2 1 0");
    }

    // "of equal ones the lesser number"
    private static void ofEqualKeysTheLesserNumberComesFirst() {
        AncestryNet net = new AncestryNet();
        for (int number = 0; number < 7; number++) {
            net.add(Edges.LEAST, Edges.LEAST, -1, -1, -1);
        }
        expectOrder(net, "0 1 2 3 4 5 6");
    }

    /** Puts 7 to 12 above the roots 0 to 6, so that 11 and 12 have just the roots in common. */
    private static void expectOrder(AncestryNet net, String due) {
        for (int side = 0; side < 2; side++) {
            net.add(Edges.GREATEST, -1, 5, 1, 3);
            net.add(Edges.GREATEST, -1, 6, 2, 0);
            net.under(net.count(0) - 1, 4);
        }
        net.add(0, 0, 7, 8, -1);
        net.add(0, 0, 9, 10, -1);
        Expect.equal("the bases of 11 and 12", Nets.basesOf(net, 11, 12), due);
        Expect.equal("the log of 11", Nets.logOf(net, 11), "11 7 8 " + due);
    }

    // "none is, at first"
    private static void noneIsATipAtFirst() {
        AncestryNet net = Nets.line(2);
        Expect.equal("told(0, 4)", net.told(0, 4), 0);
        Expect.equal("told(1, 4)", net.told(1, 4), 0);
        Expect.equal("count(1)", net.count(1), 0);
        Expect.equal("count(2)", net.count(2), 0);
        net.tip(0, 1, true);
        net.tip(1, 1, true);
        Expect.equal("told of the next", net.told(net.add(0, 0, 1, -1, -1), 4), 0);
    }

    // "those REACHABLE from both, without those REACHABLE from a PARENT of one of these"
    private static void basesMayBeNoneOrTheCommitItself() {
        AncestryNet net = Nets.line(3);
        net.add(0, 0, -1, -1, -1);
        Expect.equal("of two roots", Nets.basesOf(net, 0, 3), "");
        Expect.equal("of a root and itself", Nets.basesOf(net, 3, 3), "3");
        Expect.equal("of a commit with parents and itself", Nets.basesOf(net, 2, 2), "2");
        Expect.equal("of a commit and its parent", Nets.basesOf(net, 2, 1), "1");
        Expect.equal("of a parent and its child", Nets.basesOf(net, 1, 2), "1");
    }

    // "all REACHABLE from it"
    private static void aLogMayBeTheCommitAlone() {
        AncestryNet net = Nets.line(2);
        Expect.equal("of a root", Nets.logOf(net, 0), "0");
        Expect.equal("of the last", Nets.logOf(net, 1), "1 0");
    }

    // "COMMON: what both have. SENT from one HOLDER: what it has without what is COMMON."
    private static void commonAndSentMayBeEmpty() {
        AncestryNet net = Nets.line(2);
        expectHeld(net, "without tips", 0, "", "");
        net.tip(0, 1, true);
        expectHeld(net, "with tips of one holder", 0, "0 1", "");
        net.tip(1, 0, true);
        expectHeld(net, "with a part of it held by the other", 1, "1", "");
        net.tip(1, 1, true);
        expectHeld(net, "with the same tip", 2, "", "");
        net.tip(0, 1, false);
        expectHeld(net, "with tips of the other holder", 0, "", "0 1");
    }

    private static void expectHeld(AncestryNet net, String when, int common, String fromFirst, String fromSecond) {
        Expect.equal("common " + when, net.count(5), common);
        Expect.equal("sent from 0 " + when, Nets.sentFrom(net, 0), fromFirst);
        Expect.equal("sent from 1 " + when, Nets.sentFrom(net, 1), fromSecond);
    }
}
