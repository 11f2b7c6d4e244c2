/** Promise 11: count. */
public final class CountTest {
    public static void main(String[] args) {
        AncestryNet net = Nets.crossed();
        Expect.equal("counts without tips", Nets.countsOf(net), "6 0 0 4 2 0 0");
        net.tip(0, 5, true);
        net.tip(0, 3, true);
        net.tip(0, 0, true);
        Expect.equal("counts with one holder", Nets.countsOf(net), "6 3 0 4 2 0 0");
        net.tip(1, 4, true);
        Expect.equal("counts with both holders", Nets.countsOf(net), "6 3 1 4 2 3 0");
        net.tip(1, 3, true);
        Expect.equal("counts with a tip of both", Nets.countsOf(net), "6 3 2 4 2 4 0");
        net.under(5, 4);
        Expect.equal("counts after under", Nets.countsOf(net), "6 3 2 4 1 5 0");
        net.add(0, 0, -1, -1, -1);
        Expect.equal("counts after another root", Nets.countsOf(net), "7 3 2 4 2 5 0");
        Expect.equal("counts of one root", Nets.countsOf(Nets.line(1)), "1 0 0 1 1 0 0");
        Expect.equal("count(7)", net.count(7), -1);
        Expect.equal("count(-1)", net.count(-1), -1);
        Expect.equal("count of the least int", net.count(Integer.MIN_VALUE), -1);
        Expect.equal("count of the greatest int", net.count(Integer.MAX_VALUE), -1);
        Expect.end();
    }
}
