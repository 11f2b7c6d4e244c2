/** Promise 3: under. */
public final class UnderTest {
    public static void main(String[] args) {
        addsParentsBehindTheOthers();
        raisesTheGenerationAlone();
        takesWhatIsAParentAlready();
        refusesAndChangesNothing();
        badComesBeforeTheState();
        Expect.end();
    }

    private static void addsParentsBehindTheOthers() {
        AncestryNet net = new AncestryNet();
        net.add(0, 0, -1, -1, -1);
        net.add(0, 0, -1, -1, -1);
        net.add(0, 0, -1, -1, -1);
        Expect.equal("childless before", net.count(4), 3);
        Expect.equal("under(2, 1)", net.under(2, 1), 1);
        Expect.equal("under(2, 0)", net.under(2, 0), 2);
        Expect.equal("told(2, 2)", net.told(2, 2), 2);
        Expect.equal("the first parent", net.back(2, 1), 1);
        Expect.equal("reaches(2, 0)", net.reaches(2, 0), true);
        Expect.equal("childless after", net.count(4), 1);
    }

    private static void raisesTheGenerationAlone() {
        AncestryNet net = Nets.line(4);
        net.add(0, 0, 2, -1, -1);
        net.under(4, 0);
        Expect.equal("the generation over a lower parent", net.told(4, 3), 4);
        net.under(4, 3);
        Expect.equal("the generation over a higher parent", net.told(4, 3), 5);
        Expect.equal("the greatest generation", net.count(3), 5);
    }

    private static void takesWhatIsAParentAlready() {
        AncestryNet net = new AncestryNet();
        net.add(0, 0, -1, -1, -1);
        net.add(0, 0, 0, 0, 0);
        Expect.equal("under(1, 0)", net.under(1, 0), 4);
        Expect.equal("the log", Nets.logOf(net, 1), "1 0");
    }

    private static void refusesAndChangesNothing() {
        AncestryNet net = Nets.crossed();
        net.under(5, 0);
        net.under(5, 4);
        net.under(5, 4);
        String before = Nets.allOf(net);
        Expect.refused("a fifth parent", () -> net.under(5, 4));
        Expect.refused("under what is a parent", () -> net.under(3, 0));
        Expect.refused("under a parent of one that has it by under alone", () -> net.under(4, 0));
        Expect.bad("itself", () -> net.under(5, 5));
        Expect.bad("above", () -> net.under(3, 4));
        Expect.bad("p of -1", () -> net.under(5, -1));
        Expect.bad("c of -1", () -> net.under(-1, 0));
        Expect.bad("c of -1 and p below it", () -> net.under(-1, -2));
        Expect.bad("c not there", () -> net.under(6, 0));
        Expect.bad("both not there", () -> net.under(8, 7));
        Expect.equal("the net after that", Nets.allOf(net), before);
    }

    private static void badComesBeforeTheState() {
        AncestryNet net = Nets.crossed();
        Expect.bad("above, under a parent", () -> net.under(1, 2));
        Expect.bad("p of -1, under a parent", () -> net.under(1, -1));
        Expect.bad("itself, under a parent", () -> net.under(1, 1));
    }
}
