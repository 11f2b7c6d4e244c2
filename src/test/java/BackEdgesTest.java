/** Promise 8, its edges. */
public final class BackEdgesTest {
    public static void main(String[] args) {
        noStepIsTheCommitItself();
        theLineEndsAtARoot();
        belowZeroIsBad();
        otherCommitsAreBad();
        badComesBeforeNotThere();
        Expect.end();
    }

    // "The n-th (0: c itself)"
    private static void noStepIsTheCommitItself() {
        AncestryNet net = Nets.mixed();
        for (int c = 0; c <= 4; c++) {
            Expect.equal("back(" + c + ", 0)", net.back(c, 0), c);
        }
    }

    // "Not there: java.util.NoSuchElementException."
    private static void theLineEndsAtARoot() {
        AncestryNet net = Nets.mixed();
        Expect.equal("the last of the line of 3", net.back(3, 2), 0);
        Edges.allNotThere("n from 3", new int[] {3, 4, 32, 1 << 30, Edges.GREATEST}, n -> net.back(3, n));
        Expect.equal("the last of the line of 4", net.back(4, 1), 1);
        Edges.allNotThere("n from 4", new int[] {2, 3, Edges.GREATEST}, n -> net.back(4, n));
        Edges.allNotThere("n from a root", new int[] {1, 2, Edges.GREATEST}, n -> net.back(0, n));
    }

    // "n below 0: bad.": -1 asks for no number here.
    private static void belowZeroIsBad() {
        AncestryNet net = Nets.mixed();
        int[] below = {-1, -2, -32, -(1 << 30), Edges.LEAST + 1, Edges.LEAST};
        Edges.allBad("n from 3", below, n -> net.back(3, n));
        Edges.allBad("n from a root", below, n -> net.back(0, n));
    }

    // "Bad": "COMMITS that aren't there, too".
    private static void otherCommitsAreBad() {
        AncestryNet net = Nets.mixed();
        Edges.allBad("c", Edges.outside(0, 4), c -> net.back(c, 0));
        Edges.allBad("c, with a step", Edges.outside(0, 4), c -> net.back(c, 1));
    }

    // Where a number is bad there is no line that could end.
    private static void badComesBeforeNotThere() {
        AncestryNet net = Nets.mixed();
        Edges.allBad("c of 5, with n", Edges.outside(0, 2), n -> net.back(5, n));
        Edges.allBad("c of -1, with n", Edges.outside(0, 2), n -> net.back(-1, n));
    }
}
