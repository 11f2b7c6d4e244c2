/** Small nets that several tests begin with, and the whole of what a net shows. */
final class Nets {
    private Nets() {
    }

    /** 0 is the root, 1 and 2 its children, 3 and 4 both merge these, 5 is the child of 3. */
    static AncestryNet crossed() {
        AncestryNet net = new AncestryNet();
        net.add(1, 0, -1, -1, -1);
        net.add(2, 0, 0, -1, -1);
        net.add(3, 0, 0, -1, -1);
        net.add(4, 0, 1, 2, -1);
        net.add(5, 0, 2, 1, -1);
        net.add(6, 0, 3, -1, -1);
        return net;
    }

    /**
     * Something of everything: 3 and 4 are no parents, 4 has four parents (0 and 1 twice each), the
     * holders have 0 and 1 in common, 2 and 3 are sent from holder 0, 4 from holder 1, 3 and 4 have two bases.
     */
    static AncestryNet mixed() {
        AncestryNet net = new AncestryNet();
        net.add(10, 1, -1, -1, -1);
        net.add(20, -1, -1, -1, -1);
        net.add(20, -1, 0, -1, -1);
        net.add(5, 3, 2, 1, -1);
        net.add(7, 2, 1, 0, 1);
        net.under(4, 0);
        net.tip(0, 3, true);
        net.tip(0, 1, true);
        net.tip(1, 4, true);
        return net;
    }

    /** As many commits as asked for, none the parent of another. */
    static AncestryNet roots(int howMany) {
        AncestryNet net = new AncestryNet();
        for (int number = 0; number < howMany; number++) {
            net.add(0, 0, -1, -1, -1);
        }
        return net;
    }

    /** As many commits as asked for, each the child of the one before. */
    static AncestryNet line(int length) {
        AncestryNet net = new AncestryNet();
        for (int number = 0; number < length; number++) {
            net.add(number, 0, number - 1, -1, -1);
        }
        return net;
    }

    static String logOf(AncestryNet net, int c) {
        StringBuilder text = new StringBuilder();
        int length = net.log(c, -1);
        for (int i = 0; i < length; i++) {
            text.append(net.log(c, i)).append(' ');
        }
        return text.toString().trim();
    }

    static String basesOf(AncestryNet net, int a, int b) {
        StringBuilder text = new StringBuilder();
        int length = net.base(a, b, -1);
        for (int i = 0; i < length; i++) {
            text.append(net.base(a, b, i)).append(' ');
        }
        return text.toString().trim();
    }

    static String sentFrom(AncestryNet net, int h) {
        StringBuilder text = new StringBuilder();
        int length = net.sent(h, -1);
        for (int i = 0; i < length; i++) {
            text.append(net.sent(h, i)).append(' ');
        }
        return text.toString().trim();
    }

    static String countsOf(AncestryNet net) {
        StringBuilder text = new StringBuilder();
        for (int what = 0; what <= 6; what++) {
            text.append(net.count(what)).append(' ');
        }
        return text.toString().trim();
    }

    static String wayBackOf(AncestryNet net, int c) {
        StringBuilder text = new StringBuilder();
        int at = net.back(c, 0);
        text.append(at);
        for (int n = 1; net.told(at, 2) > 0; n++) {
            at = net.back(c, n);
            text.append(' ').append(at);
        }
        return text.toString();
    }

    /** The answer to every question that is let in; two such looks at six commits stay below 512 calls. */
    static String allOf(AncestryNet net) {
        StringBuilder text = new StringBuilder(countsOf(net));
        int commits = net.count(0);
        for (int c = 0; c < commits; c++) {
            text.append('\n').append(c).append(':');
            for (int what = 0; what <= 4; what++) {
                text.append(' ').append(net.told(c, what));
            }
            text.append(" log ").append(logOf(net, c)).append(" back ").append(wayBackOf(net, c));
            for (int other = 0; other < commits; other++) {
                text.append(" with ").append(other).append(net.reaches(c, other) ? " reached" : " not reached");
                text.append(" bases ").append(basesOf(net, c, other));
            }
        }
        text.append("\nsent ").append(sentFrom(net, 0)).append(" and ").append(sentFrom(net, 1));
        return text.toString();
    }
}
