/** Promise 7, its edges. */
public final class LogEdgesTest {
    public static void main(String[] args) {
        placesFromTheFirstToTheLastAreThere();
        aParentWaitsForAllItsChildren();
        otherPlacesAreNot();
        otherNumbersAreBad();
        badComesBeforeNotThere();
        Expect.end();
    }

    // "Number i of the LOG of c, or how many there are (i = -1)."
    private static void placesFromTheFirstToTheLastAreThere() {
        AncestryNet net = Nets.mixed();
        Expect.equal("log(0, -1)", net.log(0, -1), 1);
        Expect.equal("log(0, 0)", net.log(0, 0), 0);
        Expect.equal("log(3, -1)", net.log(3, -1), 4);
        Expect.equal("log(3, 0)", net.log(3, 0), 3);
        Expect.equal("log(3, 1)", net.log(3, 1), 1);
        Expect.equal("log(3, 2)", net.log(3, 2), 2);
        Expect.equal("log(3, 3)", net.log(3, 3), 0);
        Expect.equal("log(4, -1), each parent there twice", net.log(4, -1), 3);
        Expect.equal("log(4, 2), each parent there twice", net.log(4, 2), 0);
    }

    // "and are a PARENT just of such (REACHABLE ones) as are": the first in THE ORDER is told last, all the same.
    private static void aParentWaitsForAllItsChildren() {
        AncestryNet net = new AncestryNet();
        net.add(Edges.GREATEST, Edges.LEAST, -1, -1, -1);
        net.add(Edges.LEAST, Edges.GREATEST, 0, -1, -1);
        net.add(0, 0, 0, 1, 0);
        net.under(2, 0);
        net.add(0, 0, 2, -1, -1);
        Expect.equal("the log of 2", Nets.logOf(net, 2), "2 1 0");
        Expect.equal("the log of 3", Nets.logOf(net, 3), "3 2 1 0");
        net.add(Edges.LEAST, Edges.GREATEST, 0, -1, -1);
        Expect.equal("the log of 3 beside another child", Nets.logOf(net, 3), "3 2 1 0");
    }

    // "Not there: java.util.NoSuchElementException." And "so for all": i below -1, too.
    private static void otherPlacesAreNot() {
        AncestryNet net = Nets.mixed();
        Edges.allNotThere("place in one", Edges.outside(-1, 0), i -> net.log(1, i));
        Edges.allNotThere("place in three", Edges.outside(-1, 2), i -> net.log(4, i));
        Edges.allNotThere("place in four", Edges.outside(-1, 3), i -> net.log(3, i));
        Expect.equal("log(3, 3) after that", net.log(3, 3), 0);
    }

    // "Bad": "COMMITS that aren't there, too".
    private static void otherNumbersAreBad() {
        AncestryNet net = Nets.mixed();
        Edges.allBad("c, how many", Edges.outside(0, 4), c -> net.log(c, -1));
        Edges.allBad("c, the first", Edges.outside(0, 4), c -> net.log(c, 0));
    }

    // Where c is bad there is nothing that i could be a place in.
    private static void badComesBeforeNotThere() {
        AncestryNet net = Nets.mixed();
        Edges.allBad("c of 5, with i", Edges.outside(-1, 4), i -> net.log(5, i));
        Edges.allBad("c of -1, with i", Edges.outside(-1, 4), i -> net.log(-1, i));
    }
}
