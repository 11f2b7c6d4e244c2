/** Promise 9: sent. */
public final class SentTest {
    public static void main(String[] args) {
        sendsWhatIsNotCommon();
        ordersByGenerationKeyAndNumber();
        seesGenerationsRaisedLater();
        seesTipsTakenBack();
        refuses();
        Expect.end();
    }

    private static void sendsWhatIsNotCommon() {
        AncestryNet net = Nets.crossed();
        Expect.equal("sent from 0 without tips", Nets.sentFrom(net, 0), "");
        net.tip(0, 5, true);
        Expect.equal("sent from 0 against nothing", Nets.sentFrom(net, 0), "0 1 2 3 5");
        Expect.equal("sent from 1 without tips", Nets.sentFrom(net, 1), "");
        net.tip(1, 4, true);
        Expect.equal("sent from 0 against 4", Nets.sentFrom(net, 0), "3 5");
        Expect.equal("sent from 1 against 5", Nets.sentFrom(net, 1), "4");
        net.tip(1, 5, true);
        Expect.equal("sent from 0 against all", Nets.sentFrom(net, 0), "");
        Expect.equal("sent from 1 with both tips", Nets.sentFrom(net, 1), "4");
    }

    // The times run against the order that is due, for they have no say here.
    private static void ordersByGenerationKeyAndNumber() {
        AncestryNet net = new AncestryNet();
        net.add(1, 8, -1, -1, -1);
        net.add(2, -5, 0, -1, -1);
        net.add(3, 8, -1, -1, -1);
        net.add(4, Integer.MAX_VALUE, -1, -1, -1);
        net.add(5, Integer.MIN_VALUE, -1, -1, -1);
        net.add(6, -6, 1, 2, 3);
        net.under(5, 4);
        net.tip(1, 5, true);
        Expect.equal("sent from 1", Nets.sentFrom(net, 1), "4 0 2 3 1 5");
    }

    private static void seesGenerationsRaisedLater() {
        AncestryNet net = Nets.line(3);
        net.add(0, -1, -1, -1, -1);
        net.tip(0, 3, true);
        net.tip(0, 2, true);
        Expect.equal("sent before under", Nets.sentFrom(net, 0), "3 0 1 2");
        net.under(3, 1);
        Expect.equal("sent after under", Nets.sentFrom(net, 0), "0 1 3 2");
    }

    private static void seesTipsTakenBack() {
        AncestryNet net = Nets.crossed();
        net.tip(0, 3, true);
        net.tip(0, 1, true);
        net.tip(1, 0, true);
        Expect.equal("sent with both tips", Nets.sentFrom(net, 0), "1 2 3");
        net.tip(0, 3, false);
        Expect.equal("sent with one tip", Nets.sentFrom(net, 0), "1");
        net.tip(1, 0, false);
        Expect.equal("sent against nothing", Nets.sentFrom(net, 0), "0 1");
    }

    private static void refuses() {
        AncestryNet net = Nets.crossed();
        net.tip(0, 1, true);
        Expect.equal("sent(0, -1)", net.sent(0, -1), 2);
        Expect.equal("sent(1, -1)", net.sent(1, -1), 0);
        Expect.notThere("sent(0, 2)", () -> net.sent(0, 2));
        Expect.notThere("sent(0, -2)", () -> net.sent(0, -2));
        Expect.notThere("sent(1, 0)", () -> net.sent(1, 0));
        Expect.notThere("the least int", () -> net.sent(0, Integer.MIN_VALUE));
        Expect.notThere("the greatest int", () -> net.sent(0, Integer.MAX_VALUE));
        Expect.bad("sent(2, 0)", () -> net.sent(2, 0));
        Expect.bad("sent(-1, -1)", () -> net.sent(-1, -1));
        Expect.bad("sent(2, -2)", () -> net.sent(2, -2));
    }
}
