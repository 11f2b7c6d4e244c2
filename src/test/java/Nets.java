/** Small nets that several tests begin with, and the whole of what a net shows. */
final class Nets {
    private Nets() {
    }

    /** 0 is the root, 1 and 2 its children, 3 and 4 both merge these, 5 is the child of 3. */
    static AncestryNet crossed() {
        AncestryNet net = new AncestryNet();
        net.add(1, 0, -1, -1, -1);
        net.add(2, 0, 0, -1, -1);
        net.add(3, 0, 0, -1, -1);
        net.add(4, 0, 1, 2, -1);
        net.add(5, 0, 2, 1, -1);
        net.add(6, 0, 3, -1, -1);
        return net;
    }

    /** As many commits as asked for, each the child of the one before. */
    static AncestryNet line(int length) {
        AncestryNet net = new AncestryNet();
        for (int number = 0; number < length; number++) {
            net.add(number, 0, number - 1, -1, -1);
        }
        return net;
    }

    static String logOf(AncestryNet net, int c) {
        StringBuilder text = new StringBuilder();
        for (int i = 0; i < net.log(c, -1); i++) {
            text.append(net.log(c, i)).append(' ');
        }
        return text.toString().trim();
    }

    static String basesOf(AncestryNet net, int a, int b) {
        StringBuilder text = new StringBuilder();
        for (int i = 0; i < net.base(a, b, -1); i++) {
            text.append(net.base(a, b, i)).append(' ');
        }
        return text.toString().trim();
    }

    static String sentFrom(AncestryNet net, int h) {
        StringBuilder text = new StringBuilder();
        for (int i = 0; i < net.sent(h, -1); i++) {
            text.append(net.sent(h, i)).append(' ');
        }
        return text.toString().trim();
    }

    static String countsOf(AncestryNet net) {
        StringBuilder text = new StringBuilder();
        for (int what = 0; what <= 6; what++) {
            text.append(net.count(what)).append(' ');
        }
        return text.toString().trim();
    }

    /** What a net tells of its state; two such looks at six commits stay well below 512 calls. */
    static String allOf(AncestryNet net) {
        StringBuilder text = new StringBuilder(countsOf(net));
        for (int c = 0; c < net.count(0); c++) {
            text.append('\n').append(c).append(':');
            for (int what = 0; what <= 4; what++) {
                text.append(' ').append(net.told(c, what));
            }
            text.append(" log ").append(logOf(net, c));
            if (net.told(c, 2) > 0) {
                text.append(" first parent ").append(net.back(c, 1));
            }
        }
        text.append("\nsent ").append(sentFrom(net, 0)).append(" and ").append(sentFrom(net, 1));
        return text.toString();
    }
}
