/** "What it is", its edge: the calls of an object up to its 512th. */
public final class UseEdgesTest {
    private static final int MOST_CALLS = 512;

    public static void main(String[] args) {
        theLastCallIsAnAdd();
        theLastCallAsksALine();
        theLastCallAsksManyRoots();
        theLastCallChanges();
        theLastCallIsRefused();
        refusedCallsUseNothingUp();
        Expect.end();
    }

    // "An object is used for at most 512 calls after it has been made": as adds alone.
    private static void theLastCallIsAnAdd() {
        AncestryNet net = Nets.line(MOST_CALLS - 1);
        Expect.equal("the 512th add", net.add(0, 0, 510, 0, 510), 511);
    }

    // The same sentence, with each question as the 512th call of a net as deep as can be.
    private static void theLastCallAsksALine() {
        Expect.equal("count(0)", lineWithOneCallLeft().count(0), 511);
        Expect.equal("count(3)", lineWithOneCallLeft().count(3), 511);
        Expect.equal("count(4)", lineWithOneCallLeft().count(4), 1);
        Expect.equal("count(6)", lineWithOneCallLeft().count(6), 0);
        Expect.equal("told(510, 0)", lineWithOneCallLeft().told(510, 0), 510);
        Expect.equal("told(510, 3)", lineWithOneCallLeft().told(510, 3), 511);
        Expect.equal("reaches(510, 0)", lineWithOneCallLeft().reaches(510, 0), true);
        Expect.equal("reaches(0, 510)", lineWithOneCallLeft().reaches(0, 510), false);
        Expect.equal("base(510, 1, -1)", lineWithOneCallLeft().base(510, 1, -1), 1);
        Expect.equal("base(510, 1, 0)", lineWithOneCallLeft().base(510, 1, 0), 1);
        Expect.equal("log(510, -1)", lineWithOneCallLeft().log(510, -1), 511);
        Expect.equal("log(510, 510)", lineWithOneCallLeft().log(510, 510), 0);
        Expect.equal("back(510, 510)", lineWithOneCallLeft().back(510, 510), 0);
    }

    // The same sentence, with each question as the 512th call of a net as wide as can be.
    private static void theLastCallAsksManyRoots() {
        Expect.equal("count(1)", rootsWithOneCallLeft().count(1), 255);
        Expect.equal("count(2)", rootsWithOneCallLeft().count(2), 1);
        Expect.equal("count(4)", rootsWithOneCallLeft().count(4), 255);
        Expect.equal("count(5)", rootsWithOneCallLeft().count(5), 1);
        Expect.equal("sent(0, -1)", rootsWithOneCallLeft().sent(0, -1), 254);
        Expect.equal("sent(0, 0)", rootsWithOneCallLeft().sent(0, 0), 254);
        Expect.equal("sent(0, 253)", rootsWithOneCallLeft().sent(0, 253), 1);
    }

    // The same sentence, with the last change as the 511th call.
    private static void theLastCallChanges() {
        AncestryNet raised = Nets.line(MOST_CALLS - 2);
        Expect.equal("under as the 511th call", raised.under(509, 0), 2);
        Expect.equal("told(509, 2) as the 512th call", raised.told(509, 2), 2);
        AncestryNet held = Nets.line(MOST_CALLS - 2);
        held.tip(1, 509, true);
        Expect.equal("sent(1, 509) as the 512th call", held.sent(1, 509), 509);
    }

    // The same sentence, with a refusal of each kind as the 512th call.
    private static void theLastCallIsRefused() {
        Expect.bad("told(511, 0)", () -> lineWithOneCallLeft().told(511, 0));
        Expect.refused("under(509, 0)", () -> lineWithOneCallLeft().under(509, 0));
        Expect.notThere("log(510, 511)", () -> lineWithOneCallLeft().log(510, 511));
        Expect.notThere("back(510, 511)", () -> lineWithOneCallLeft().back(510, 511));
    }

    // The same sentence: 511 calls that are refused leave the 512th as it would be without them.
    private static void refusedCallsUseNothingUp() {
        AncestryNet net = new AncestryNet();
        for (int call = 1; call < MOST_CALLS; call++) {
            Expect.bad("add above an empty net", () -> net.add(0, 0, 0, -1, -1));
        }
        Expect.equal("the first add as the 512th call", net.add(0, 0, -1, -1, -1), 0);
    }

    private static AncestryNet lineWithOneCallLeft() {
        return Nets.line(MOST_CALLS - 1);
    }

    /** 255 roots with falling keys, all tips of holder 0; the first is the tip of holder 1, too. */
    private static AncestryNet rootsWithOneCallLeft() {
        AncestryNet net = new AncestryNet();
        for (int number = 0; number < 255; number++) {
            net.add(0, -number, -1, -1, -1);
            net.tip(0, number, true);
        }
        net.tip(1, 0, true);
        return net;
    }
}
