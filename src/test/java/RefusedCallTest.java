/** "What is refused changes nothing": after a refused call of each kind every question is answered as before. */
public final class RefusedCallTest {
    private enum Kind { BAD, STATE, NOT_THERE }

    private interface Call {
        void of(AncestryNet net);
    }

    public static void main(String[] args) {
        changesAreRefused();
        questionsAreRefused();
        questionsAreNotThere();
        anEmptyNetRefuses();
        Expect.end();
    }

    private static void changesAreRefused() {
        expectRefusal(Kind.BAD, "add with a not there", net -> net.add(99, 99, 5, 3, 4));
        expectRefusal(Kind.BAD, "add with b not there", net -> net.add(99, 99, 3, 5, 4));
        expectRefusal(Kind.BAD, "add with c not there", net -> net.add(99, 99, 3, 4, 5));
        expectRefusal(Kind.BAD, "add with c below -1", net -> net.add(99, 99, 3, 4, -2));
        expectRefusal(Kind.BAD, "under one not there", net -> net.under(5, 3));
        expectRefusal(Kind.BAD, "under with p not below", net -> net.under(3, 3));
        expectRefusal(Kind.BAD, "under with p above", net -> net.under(3, 4));
        expectRefusal(Kind.BAD, "under with p below 0", net -> net.under(3, -1));
        expectRefusal(Kind.STATE, "under a parent", net -> net.under(2, 1));
        expectRefusal(Kind.STATE, "under one with four", net -> net.under(4, 3));
        expectRefusal(Kind.BAD, "a tip of holder 2", net -> net.tip(2, 2, true));
        expectRefusal(Kind.BAD, "no tip of holder -1", net -> net.tip(-1, 3, false));
        expectRefusal(Kind.BAD, "a tip that isn't there", net -> net.tip(0, 5, true));
        expectRefusal(Kind.BAD, "no tip, at -1", net -> net.tip(1, -1, false));
    }

    private static void questionsAreRefused() {
        expectRefusal(Kind.BAD, "reaches from 5", net -> net.reaches(5, 0));
        expectRefusal(Kind.BAD, "reaches of 5", net -> net.reaches(0, 5));
        expectRefusal(Kind.BAD, "base with a not there", net -> net.base(5, 0, 0));
        expectRefusal(Kind.BAD, "base with b not there", net -> net.base(0, 5, 0));
        expectRefusal(Kind.BAD, "log of 5", net -> net.log(5, 0));
        expectRefusal(Kind.BAD, "back from 5", net -> net.back(5, 0));
        expectRefusal(Kind.BAD, "back by -1", net -> net.back(4, -1));
        expectRefusal(Kind.BAD, "sent from holder 2", net -> net.sent(2, 0));
        expectRefusal(Kind.BAD, "told of 5", net -> net.told(5, 0));
        expectRefusal(Kind.BAD, "told what is 5", net -> net.told(4, 5));
    }

    private static void questionsAreNotThere() {
        expectRefusal(Kind.NOT_THERE, "base behind the last", net -> net.base(3, 4, 2));
        expectRefusal(Kind.NOT_THERE, "base below -1", net -> net.base(3, 4, -2));
        expectRefusal(Kind.NOT_THERE, "log behind the last", net -> net.log(3, 4));
        expectRefusal(Kind.NOT_THERE, "log below -1", net -> net.log(3, -2));
        expectRefusal(Kind.NOT_THERE, "back behind the last", net -> net.back(3, 3));
        expectRefusal(Kind.NOT_THERE, "sent behind the last", net -> net.sent(0, 2));
        expectRefusal(Kind.NOT_THERE, "sent below -1", net -> net.sent(1, -2));
    }

    private static void expectRefusal(Kind kind, String what, Call call) {
        AncestryNet net = Nets.mixed();
        String before = Nets.allOf(net);
        expectThrow(kind, what, () -> call.of(net));
        Expect.equal("all answers after " + what, Nets.allOf(net), before);
        expectToGoOn(what, net);
    }

    private static void expectThrow(Kind kind, String what, Expect.Call call) {
        switch (kind) {
            case BAD -> Expect.bad(what, call);
            case STATE -> Expect.refused(what, call);
            default -> Expect.notThere(what, call);
        }
    }

    // What was left half done may show itself in the next change alone.
    private static void expectToGoOn(String what, AncestryNet net) {
        Expect.equal("the next number after " + what, net.add(8, 8, 4, -1, -1), 5);
        Expect.equal("the next one's parents after " + what, net.told(5, 2), 1);
        Expect.equal("the next one's tips after " + what, net.told(5, 4), 0);
        Expect.equal("one more under 3 after " + what, net.under(3, 0), 3);
        Expect.equal("one more under the next after " + what, net.under(5, 3), 2);
        Expect.equal("the next one's log after " + what, Nets.logOf(net, 5), "5 4 3 1 2 0");
        net.tip(1, 5, true);
        Expect.equal("the counts after " + what, Nets.countsOf(net), "6 2 2 4 1 4 0");
        Expect.equal("what is sent after " + what, Nets.sentFrom(net, 1), "4 5");
    }

    private static void anEmptyNetRefuses() {
        AncestryNet net = new AncestryNet();
        String before = Nets.allOf(net);
        Expect.bad("add", () -> net.add(9, 9, 0, -1, -1));
        Expect.bad("under", () -> net.under(0, -1));
        Expect.bad("tip", () -> net.tip(0, 0, true));
        Expect.bad("reaches", () -> net.reaches(0, 0));
        Expect.bad("base", () -> net.base(0, 0, 0));
        Expect.bad("log", () -> net.log(0, 0));
        Expect.bad("back", () -> net.back(0, 0));
        Expect.bad("told", () -> net.told(0, 0));
        Expect.bad("sent from holder 2", () -> net.sent(2, -1));
        Expect.notThere("sent", () -> net.sent(0, 0));
        Expect.equal("all answers after that", Nets.allOf(net), before);
        Expect.equal("the first add", net.add(0, 0, -1, -1, -1), 0);
        Expect.equal("all answers then", Nets.allOf(net), Nets.allOf(Nets.roots(1)));
    }
}
