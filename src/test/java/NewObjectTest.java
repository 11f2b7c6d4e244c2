/** Promise 1: a new object is without commits, and so without all that takes one. */
public final class NewObjectTest {
    public static void main(String[] args) {
        AncestryNet net = new AncestryNet();
        Expect.equal("the counts of a new net", Nets.countsOf(net), "0 0 0 0 0 0 0");
        Expect.equal("sent(0, -1)", net.sent(0, -1), 0);
        Expect.equal("sent(1, -1)", net.sent(1, -1), 0);
        Expect.notThere("sent(0, 0)", () -> net.sent(0, 0));
        Expect.bad("told(0, 0)", () -> net.told(0, 0));
        Expect.bad("log(0, -1)", () -> net.log(0, -1));
        Expect.bad("base(0, 0, -1)", () -> net.base(0, 0, -1));
        Expect.bad("back(0, 0)", () -> net.back(0, 0));
        Expect.bad("reaches(0, 0)", () -> net.reaches(0, 0));
        Expect.bad("tip(0, 0, true)", () -> net.tip(0, 0, true));
        Expect.bad("under(0, 0)", () -> net.under(0, 0));
        twoObjectsShareNothing();
        Expect.end();
    }

    private static void twoObjectsShareNothing() {
        AncestryNet full = Nets.crossed();
        full.tip(0, 5, true);
        Expect.equal("the counts of a second net", Nets.countsOf(new AncestryNet()), "0 0 0 0 0 0 0");
    }
}
