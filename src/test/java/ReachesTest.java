/** Promise 5: reaches. */
public final class ReachesTest {
    public static void main(String[] args) {
        AncestryNet net = Nets.crossed();
        Expect.equal("reaches(5, 0)", net.reaches(5, 0), true);
        Expect.equal("reaches(5, 2)", net.reaches(5, 2), true);
        Expect.equal("reaches(0, 5)", net.reaches(0, 5), false);
        Expect.equal("reaches(5, 4)", net.reaches(5, 4), false);
        Expect.equal("reaches(4, 3)", net.reaches(4, 3), false);
        Expect.equal("reaches(2, 1)", net.reaches(2, 1), false);
        Expect.equal("reaches(4, 4)", net.reaches(4, 4), true);
        Expect.equal("reaches(0, 0)", net.reaches(0, 0), true);
        seesParentsGivenLater();
        reachesThroughEveryParent();
        Expect.bad("b not there", () -> net.reaches(6, 0));
        Expect.bad("a not there", () -> net.reaches(0, 6));
        Expect.bad("b of -1", () -> net.reaches(-1, 0));
        Expect.bad("a of -1", () -> net.reaches(0, -1));
        Expect.end();
    }

    private static void seesParentsGivenLater() {
        AncestryNet net = Nets.crossed();
        net.under(5, 4);
        Expect.equal("reaches(5, 4) after under", net.reaches(5, 4), true);
    }

    private static void reachesThroughEveryParent() {
        AncestryNet net = new AncestryNet();
        for (int root = 0; root < 5; root++) {
            net.add(0, 0, -1, -1, -1);
        }
        net.add(0, 0, 0, 1, 2);
        net.under(5, 3);
        for (int parent = 0; parent < 4; parent++) {
            Expect.equal("reaches(5, " + parent + ")", net.reaches(5, parent), true);
        }
        Expect.equal("reaches(5, 4)", net.reaches(5, 4), false);
    }
}
