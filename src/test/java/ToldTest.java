/** Promise 10: told. */
public final class ToldTest {
    public static void main(String[] args) {
        AncestryNet net = Nets.line(3);
        net.add(-40, -50, 0, 2, 1);
        net.tip(1, 3, true);
        Expect.equal("told(3, 0)", net.told(3, 0), -40);
        Expect.equal("told(3, 1)", net.told(3, 1), -50);
        Expect.equal("told(3, 2)", net.told(3, 2), 3);
        Expect.equal("told(3, 3)", net.told(3, 3), 4);
        Expect.equal("told(3, 4)", net.told(3, 4), 1);
        net.tip(0, 3, true);
        Expect.equal("told(3, 4) with both holders", net.told(3, 4), 2);
        Expect.equal("told(0, 2)", net.told(0, 2), 0);
        Expect.equal("told(0, 3)", net.told(0, 3), 1);
        Expect.equal("told(0, 4), held but no tip", net.told(0, 4), 0);
        Expect.bad("told(3, 5)", () -> net.told(3, 5));
        Expect.bad("told(3, -1)", () -> net.told(3, -1));
        Expect.bad("told(4, 0)", () -> net.told(4, 0));
        Expect.bad("told(-1, 0)", () -> net.told(-1, 0));
        Expect.end();
    }
}
