/**
 * Every way in which four commits can have parents by add, and then the last one with one more by
 * under: all questions that are let in, answered by the net and by the model. Times, keys and tips
 * differ from one way to the next, but are the same each time the test is run.
 */
public final class SmallNetsTest {
    private static final int COMMITS = 4;

    private final int shape;
    private final AncestryNet net = new AncestryNet();
    private final Model model = new Model();

    private SmallNetsTest(int shape) {
        this.shape = shape;
    }

    public static void main(String[] args) {
        int shapes = 1;
        for (int number = 0; number < COMMITS; number++) {
            shapes *= choicesAt(number);
        }
        for (int shape = 0; shape < shapes; shape++) {
            SmallNetsTest test = new SmallNetsTest(shape);
            test.build();
            test.compareAll("by add");
            test.putOneMoreUnderTheLast();
            test.compareAll("with one more by under");
        }
        Expect.equal("shapes", shapes, 13824);
        Expect.end();
    }

    /** Each of the three places is a commit below or none. */
    private static int choicesAt(int number) {
        return (number + 1) * (number + 1) * (number + 1);
    }

    private void build() {
        int rest = shape;
        for (int number = 0; number < COMMITS; number++) {
            int choice = rest % choicesAt(number);
            rest /= choicesAt(number);
            int base = number + 1;
            addBoth(number, choice % base - 1, choice / base % base - 1, choice / base / base - 1);
        }
        for (int number = 0; number < COMMITS; number++) {
            tipBoth(0, number, digit(4 * number + 2, 3) == 0);
            tipBoth(1, number, digit(4 * number + 3, 3) == 0);
        }
    }

    /** Few values, so that equal ones are met, and other ones for each shape. */
    private int digit(int place, int values) {
        int mixed = (shape + 1) * (2 * place + 1) * 0x9E3779B1;
        return (mixed >>> 16) % values;
    }

    private void addBoth(int number, int a, int b, int c) {
        int time = digit(4 * number, 3) - 1;
        int key = digit(4 * number + 1, 2);
        compare("add", net.add(time, key, a, b, c), model.add(time, key, a, b, c));
    }

    private void tipBoth(int h, int c, boolean so) {
        net.tip(h, c, so);
        model.tip(h, c, so);
    }

    private void putOneMoreUnderTheLast() {
        int parent = digit(16, COMMITS - 1);
        compare("under", net.under(COMMITS - 1, parent), model.under(COMMITS - 1, parent));
    }

    private void compareAll(String when) {
        for (int what = 0; what <= 6; what++) {
            compare("count(" + what + ") " + when, net.count(what), model.count(what));
        }
        for (int h = 0; h < 2; h++) {
            compareSent(h, when);
        }
        for (int c = 0; c < COMMITS; c++) {
            compareOne(c, when);
            for (int other = 0; other < COMMITS; other++) {
                comparePair(c, other, when);
            }
        }
    }

    private void compareSent(int h, String when) {
        int length = model.sent(h, -1);
        for (int i = -1; i < length; i++) {
            compare("sent(" + h + ", " + i + ") " + when, net.sent(h, i), model.sent(h, i));
        }
    }

    private void compareOne(int c, String when) {
        for (int what = 0; what <= 4; what++) {
            compare("told(" + c + ", " + what + ") " + when, net.told(c, what), model.told(c, what));
        }
        int length = model.log(c, -1);
        for (int i = -1; i < length; i++) {
            compare("log(" + c + ", " + i + ") " + when, net.log(c, i), model.log(c, i));
        }
        int at = c;
        for (int n = 1; model.told(at, 2) > 0; n++) {
            at = model.back(c, n);
            compare("back(" + c + ", " + n + ") " + when, net.back(c, n), at);
        }
    }

    private void comparePair(int c, int other, String when) {
        String pair = "(" + c + ", " + other + ") " + when;
        Expect.equal("shape " + shape + ": reaches" + pair, net.reaches(c, other), model.reaches(c, other));
        int bases = model.base(c, other, -1);
        for (int i = -1; i < bases; i++) {
            compare("base " + i + " of " + pair, net.base(c, other, i), model.base(c, other, i));
        }
    }

    private void compare(String call, int got, int due) {
        Expect.equal("shape " + shape + ": " + call, got, due);
    }
}
