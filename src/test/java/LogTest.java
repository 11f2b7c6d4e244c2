/** Promise 7: log. */
public final class LogTest {
    public static void main(String[] args) {
        tellsChildrenBeforeParents();
        takesTheFirstInTheOrderEachTime();
        breaksTiesByKeyAndNumber();
        countsAParentThatIsThereTwiceOnce();
        heedsReachableChildrenAlone();
        seesParentsGivenLater();
        refuses();
        Expect.end();
    }

    private static void tellsChildrenBeforeParents() {
        AncestryNet net = Nets.crossed();
        Expect.equal("log of 5", Nets.logOf(net, 5), "5 3 2 1 0");
        Expect.equal("log of 0", Nets.logOf(net, 0), "0");
        AncestryNet latest = new AncestryNet();
        latest.add(99, 0, -1, -1, -1);
        latest.add(2, 0, 0, -1, -1);
        latest.add(1, 0, 0, 1, -1);
        Expect.equal("a root with the greatest time", Nets.logOf(latest, 2), "2 1 0");
    }

    // Two branches, 0-1-2 and 3-4-5, whose times interleave, and one that is late behind an early one.
    private static void takesTheFirstInTheOrderEachTime() {
        AncestryNet net = new AncestryNet();
        net.add(100, 0, -1, -1, -1);
        net.add(30, 0, 0, -1, -1);
        net.add(50, 0, 1, -1, -1);
        net.add(20, 0, -1, -1, -1);
        net.add(40, 0, 3, -1, -1);
        net.add(60, 0, 4, -1, -1);
        net.add(0, 0, 2, 5, -1);
        Expect.equal("log of 6", Nets.logOf(net, 6), "6 5 2 4 1 0 3");
    }

    private static void breaksTiesByKeyAndNumber() {
        AncestryNet net = new AncestryNet();
        net.add(0, 5, -1, -1, -1);
        net.add(0, 3, -1, -1, -1);
        net.add(0, 3, -1, -1, -1);
        net.add(0, -9, -1, -1, -1);
        net.add(0, 0, 0, 2, 1);
        net.under(4, 3);
        Expect.equal("log of 4", Nets.logOf(net, 4), "4 3 1 2 0");
    }

    private static void countsAParentThatIsThereTwiceOnce() {
        AncestryNet net = new AncestryNet();
        net.add(9, 0, -1, -1, -1);
        net.add(1, 0, 0, 0, -1);
        net.add(0, 0, 1, 1, 0);
        Expect.equal("log of 2", Nets.logOf(net, 2), "2 1 0");
    }

    private static void heedsReachableChildrenAlone() {
        AncestryNet net = new AncestryNet();
        net.add(5, 0, -1, -1, -1);
        net.add(4, 0, -1, -1, -1);
        net.add(1, 0, 0, 1, -1);
        net.add(0, 0, 0, -1, -1);
        net.add(0, 0, 3, 0, -1);
        Expect.equal("log of 2", Nets.logOf(net, 2), "2 0 1");
    }

    private static void seesParentsGivenLater() {
        AncestryNet net = Nets.crossed();
        net.under(5, 4);
        Expect.equal("log of 5", Nets.logOf(net, 5), "5 4 3 2 1 0");
    }

    private static void refuses() {
        AncestryNet net = Nets.crossed();
        Expect.equal("log(5, -1)", net.log(5, -1), 5);
        Expect.notThere("log(5, 5)", () -> net.log(5, 5));
        Expect.notThere("log(5, -2)", () -> net.log(5, -2));
        Expect.notThere("log(0, 1)", () -> net.log(0, 1));
        Expect.notThere("the least int", () -> net.log(5, Integer.MIN_VALUE));
        Expect.notThere("the greatest int", () -> net.log(5, Integer.MAX_VALUE));
        Expect.bad("log(6, 0)", () -> net.log(6, 0));
        Expect.bad("log(-1, -1)", () -> net.log(-1, -1));
        Expect.bad("log(6, -2)", () -> net.log(6, -2));
    }
}
