/** Promise 6, its edges. */
public final class BaseEdgesTest {
    public static void main(String[] args) {
        placesFromTheFirstToTheLastAreThere();
        otherPlacesAreNot();
        ofNoneThereIsNoFirst();
        otherNumbersAreBad();
        badComesBeforeNotThere();
        Expect.end();
    }

    // "Number i of the BASES of a and b, or how many there are (i = -1"
    private static void placesFromTheFirstToTheLastAreThere() {
        AncestryNet net = Nets.mixed();
        Expect.equal("base(3, 4, -1)", net.base(3, 4, -1), 2);
        Expect.equal("base(3, 4, 0)", net.base(3, 4, 0), 1);
        Expect.equal("base(3, 4, 1)", net.base(3, 4, 1), 0);
        Expect.equal("base(4, 3, -1)", net.base(4, 3, -1), 2);
        Expect.equal("base(4, 3, 0)", net.base(4, 3, 0), 1);
        Expect.equal("base(4, 3, 1)", net.base(4, 3, 1), 0);
        Expect.equal("base(4, 4, -1)", net.base(4, 4, -1), 1);
        Expect.equal("base(4, 4, 0)", net.base(4, 4, 0), 4);
    }

    // "Not there (i below -1, too): java.util.NoSuchElementException."
    private static void otherPlacesAreNot() {
        AncestryNet net = Nets.mixed();
        Edges.allNotThere("place in two", Edges.outside(-1, 1), i -> net.base(3, 4, i));
        Edges.allNotThere("place in one", Edges.outside(-1, 0), i -> net.base(2, 2, i));
        Expect.equal("base(3, 4, 1) after that", net.base(3, 4, 1), 0);
    }

    // The same sentence, where there are none.
    private static void ofNoneThereIsNoFirst() {
        AncestryNet net = Nets.mixed();
        Expect.equal("base(1, 2, -1)", net.base(1, 2, -1), 0);
        Edges.allNotThere("place in none", Edges.outside(-1, -1), i -> net.base(1, 2, i));
    }

    // "Bad": "COMMITS that aren't there, too".
    private static void otherNumbersAreBad() {
        AncestryNet net = Nets.mixed();
        Edges.allBad("a", Edges.outside(0, 4), a -> net.base(a, 0, -1));
        Edges.allBad("b", Edges.outside(0, 4), b -> net.base(4, b, 0));
        Edges.allBad("both", Edges.outside(0, 4), both -> net.base(both, both, -1));
    }

    // Where a number is bad there is nothing that i could be a place in.
    private static void badComesBeforeNotThere() {
        AncestryNet net = Nets.mixed();
        Edges.allBad("a, with i", Edges.outside(-1, 1), i -> net.base(5, 0, i));
        Edges.allBad("b, with i", Edges.outside(-1, 1), i -> net.base(0, -1, i));
    }
}
