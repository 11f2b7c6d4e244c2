/** Promise 8: back. */
public final class BackTest {
    public static void main(String[] args) {
        AncestryNet net = Nets.crossed();
        Expect.equal("back(5, 0)", net.back(5, 0), 5);
        Expect.equal("back(5, 1)", net.back(5, 1), 3);
        Expect.equal("back(5, 2)", net.back(5, 2), 1);
        Expect.equal("back(5, 3)", net.back(5, 3), 0);
        Expect.equal("back(4, 1)", net.back(4, 1), 2);
        Expect.equal("back(0, 0)", net.back(0, 0), 0);
        Expect.notThere("back(5, 4)", () -> net.back(5, 4));
        Expect.notThere("back(0, 1)", () -> net.back(0, 1));
        Expect.notThere("the greatest int", () -> net.back(5, Integer.MAX_VALUE));
        Expect.bad("back(5, -1)", () -> net.back(5, -1));
        Expect.bad("the least int", () -> net.back(5, Integer.MIN_VALUE));
        Expect.bad("back(6, 0)", () -> net.back(6, 0));
        Expect.bad("back(-1, 0)", () -> net.back(-1, 0));
        Expect.bad("back(6, -1)", () -> net.back(6, -1));
        firstParentMayComeLater();
        Expect.end();
    }

    private static void firstParentMayComeLater() {
        AncestryNet net = Nets.line(3);
        net.add(0, 0, -1, -1, -1);
        Expect.notThere("back(3, 1) of a root", () -> net.back(3, 1));
        net.under(3, 1);
        net.under(3, 2);
        Expect.equal("back(3, 1)", net.back(3, 1), 1);
        Expect.equal("back(3, 2)", net.back(3, 2), 0);
        Expect.notThere("back(3, 3)", () -> net.back(3, 3));
    }
}
