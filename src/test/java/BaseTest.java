/** Promise 6: base. */
public final class BaseTest {
    public static void main(String[] args) {
        findsAllInTheOrder();
        leavesOutWhatABaseReaches();
        breaksTiesByKeyAndNumber();
        keepsToTheWholeRangeOfInts();
        refuses();
        Expect.end();
    }

    private static void findsAllInTheOrder() {
        AncestryNet net = Nets.crossed();
        Expect.equal("bases of 3 and 4", Nets.basesOf(net, 3, 4), "2 1");
        Expect.equal("bases of 5 and 4", Nets.basesOf(net, 5, 4), "2 1");
        Expect.equal("bases of 1 and 2", Nets.basesOf(net, 1, 2), "0");
        Expect.equal("bases of 5 and 3", Nets.basesOf(net, 5, 3), "3");
        Expect.equal("bases of 3 and 5", Nets.basesOf(net, 3, 5), "3");
        Expect.equal("bases of 4 and itself", Nets.basesOf(net, 4, 4), "4");
        net.add(0, 0, -1, -1, -1);
        Expect.equal("bases of 5 and a lone one", Nets.basesOf(net, 5, 6), "");
    }

    // 1 is later than its child 2 by its time: what decides is who reaches whom.
    private static void leavesOutWhatABaseReaches() {
        AncestryNet net = new AncestryNet();
        net.add(50, 0, -1, -1, -1);
        net.add(90, 0, 0, -1, -1);
        net.add(10, 0, 1, -1, -1);
        net.add(0, 0, 2, 1, 0);
        net.add(0, 0, 0, 1, 2);
        Expect.equal("bases of 3 and 4", Nets.basesOf(net, 3, 4), "2");
    }

    private static void breaksTiesByKeyAndNumber() {
        AncestryNet net = new AncestryNet();
        net.add(7, 3, -1, -1, -1);
        net.add(7, -3, -1, -1, -1);
        net.add(7, 3, -1, -1, -1);
        net.add(8, 9, -1, -1, -1);
        net.add(0, 0, 3, 2, 1);
        net.under(4, 0);
        net.add(0, 0, 0, 1, 2);
        net.under(5, 3);
        Expect.equal("bases of 4 and 5", Nets.basesOf(net, 4, 5), "3 1 0 2");
    }

    private static void keepsToTheWholeRangeOfInts() {
        AncestryNet net = new AncestryNet();
        net.add(Integer.MIN_VALUE, 0, -1, -1, -1);
        net.add(Integer.MAX_VALUE, Integer.MAX_VALUE, -1, -1, -1);
        net.add(Integer.MAX_VALUE, Integer.MIN_VALUE, -1, -1, -1);
        net.add(0, 0, 0, 1, 2);
        net.add(0, 0, 2, 1, 0);
        Expect.equal("bases of 3 and 4", Nets.basesOf(net, 3, 4), "2 1 0");
    }

    private static void refuses() {
        AncestryNet net = Nets.crossed();
        net.add(0, 0, -1, -1, -1);
        Expect.equal("base(3, 4, -1)", net.base(3, 4, -1), 2);
        Expect.equal("base(3, 6, -1)", net.base(3, 6, -1), 0);
        Expect.notThere("base(3, 4, 2)", () -> net.base(3, 4, 2));
        Expect.notThere("base(3, 4, -2)", () -> net.base(3, 4, -2));
        Expect.notThere("base(3, 6, 0)", () -> net.base(3, 6, 0));
        Expect.notThere("the least int", () -> net.base(3, 4, Integer.MIN_VALUE));
        Expect.notThere("the greatest int", () -> net.base(3, 4, Integer.MAX_VALUE));
        Expect.bad("base(7, 0, -1)", () -> net.base(7, 0, -1));
        Expect.bad("base(0, 7, 9)", () -> net.base(0, 7, 9));
        Expect.bad("base(-1, 0, 0)", () -> net.base(-1, 0, 0));
        Expect.bad("base(0, -1, -2)", () -> net.base(0, -1, -2));
    }
}
