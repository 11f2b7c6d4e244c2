/** Promise 5, its edges. */
public final class ReachesEdgesTest {
    public static void main(String[] args) {
        itselfIsReachable();
        whatIsBehindEachPlaceIsReachable();
        nothingAboveOrBesideIsReachable();
        otherNumbersAreBad();
        Expect.end();
    }

    // "REACHABLE from a COMMIT: itself": a root and a commit with parents alike.
    private static void itselfIsReachable() {
        AncestryNet net = Nets.line(2);
        Expect.equal("reaches(0, 0)", net.reaches(0, 0), true);
        Expect.equal("reaches(1, 1)", net.reaches(1, 1), true);
    }

    // "and all REACHABLE from its PARENTS": of each of the four, and of theirs.
    private static void whatIsBehindEachPlaceIsReachable() {
        AncestryNet net = Nets.roots(4);
        for (int root = 0; root < 4; root++) {
            net.add(0, 0, root, -1, -1);
        }
        int top = net.add(0, 0, 4, 5, 6);
        net.under(top, 7);
        for (int c = 0; c <= top; c++) {
            Expect.equal("reaches(8, " + c + ")", net.reaches(top, c), true);
        }
    }

    // The same sentences: nothing else.
    private static void nothingAboveOrBesideIsReachable() {
        AncestryNet net = Nets.line(3);
        net.add(0, 0, 1, -1, -1);
        Expect.equal("a child", net.reaches(1, 2), false);
        Expect.equal("a child's child", net.reaches(0, 2), false);
        Expect.equal("a later sibling", net.reaches(2, 3), false);
        Expect.equal("an earlier sibling", net.reaches(3, 2), false);
    }

    // "Bad": "COMMITS that aren't there, too".
    private static void otherNumbersAreBad() {
        AncestryNet net = Nets.mixed();
        Edges.allBad("b", Edges.outside(0, 4), b -> net.reaches(b, 0));
        Edges.allBad("a", Edges.outside(0, 4), a -> net.reaches(4, a));
        Edges.allBad("both", Edges.outside(0, 4), both -> net.reaches(both, both));
        Expect.equal("the first from the last", net.reaches(4, 0), true);
        Expect.equal("the last from the first", net.reaches(0, 4), false);
    }
}
