import java.util.Random;
import java.util.function.IntSupplier;

/** All promises at once: runs of calls, the same ones every time, answered by the net and by the model. */
public final class ModelTest {
    private static final int RUNS = 300;
    private static final int CALLS = 512;
    private static final int[] EXTREMES = {Integer.MIN_VALUE, -1, 0, 1, Integer.MAX_VALUE};

    private final Random random;
    private final int run;
    private final int mostCommits;
    private final int mostTime;
    private final AncestryNet net = new AncestryNet();
    private final Model model = new Model();

    private ModelTest(int run) {
        this.run = run;
        random = new Random(run);
        mostCommits = 1 + random.nextInt(run % 10 == 0 ? 40 : 14);
        mostTime = 1 + random.nextInt(6);
    }

    public static void main(String[] args) {
        for (int run = 1; run <= RUNS; run++) {
            ModelTest test = new ModelTest(run);
            for (int call = 0; call < CALLS; call++) {
                test.compareOneCall();
            }
        }
        Expect.end();
    }

    private void compareOneCall() {
        switch (random.nextInt(12)) {
            case 0, 1 -> compareAdd();
            case 2 -> compareUnder();
            case 3 -> compareTip();
            case 4 -> compareReaches();
            case 5 -> compareTold();
            case 6 -> compareCount();
            case 7 -> compareBack();
            case 8, 9 -> compareBaseOrLog();
            default -> compareSent();
        }
    }

    private void compareAdd() {
        if (model.count(0) >= mostCommits) {
            return;
        }
        int time = value();
        int key = value();
        int a = parent();
        int b = parent();
        int c = parent();
        compare("add(" + time + ", " + key + ", " + a + ", " + b + ", " + c + ")",
                () -> net.add(time, key, a, b, c), () -> model.add(time, key, a, b, c));
    }

    private void compareUnder() {
        int c = commit();
        int p = commit();
        compare("under(" + c + ", " + p + ")", () -> net.under(c, p), () -> model.under(c, p));
    }

    private void compareTip() {
        int h = holder();
        int c = commit();
        boolean so = random.nextInt(3) > 0;
        compare("tip(" + h + ", " + c + ", " + so + ")", () -> {
            net.tip(h, c, so);
            return 0;
        }, () -> {
            model.tip(h, c, so);
            return 0;
        });
    }

    private void compareReaches() {
        int b = commit();
        int a = commit();
        compare("reaches(" + b + ", " + a + ")",
                () -> net.reaches(b, a) ? 1 : 0, () -> model.reaches(b, a) ? 1 : 0);
    }

    private void compareTold() {
        int c = commit();
        int what = random.nextInt(7) - 1;
        compare("told(" + c + ", " + what + ")", () -> net.told(c, what), () -> model.told(c, what));
    }

    private void compareCount() {
        int what = random.nextInt(9) - 1;
        compare("count(" + what + ")", () -> net.count(what), () -> model.count(what));
    }

    private void compareBack() {
        int c = commit();
        int n = random.nextInt(8) - 1;
        compare("back(" + c + ", " + n + ")", () -> net.back(c, n), () -> model.back(c, n));
    }

    private void compareBaseOrLog() {
        int a = commit();
        int b = commit();
        if (random.nextBoolean()) {
            int i = random.nextInt(6) - 2;
            compare("base(" + a + ", " + b + ", " + i + ")", () -> net.base(a, b, i), () -> model.base(a, b, i));
        } else {
            int i = random.nextInt(mostCommits + 3) - 2;
            compare("log(" + a + ", " + i + ")", () -> net.log(a, i), () -> model.log(a, i));
        }
    }

    private void compareSent() {
        int h = holder();
        int i = random.nextInt(mostCommits + 3) - 2;
        compare("sent(" + h + ", " + i + ")", () -> net.sent(h, i), () -> model.sent(h, i));
    }

    private void compare(String call, IntSupplier got, IntSupplier due) {
        Expect.equal("run " + run + ": " + call, answer(got), answer(due));
    }

    private static String answer(IntSupplier call) {
        try {
            return Integer.toString(call.getAsInt());
        } catch (RuntimeException thrown) {
            return thrown.getClass().getName();
        }
    }

    private int value() {
        return random.nextInt(10) == 0 ? EXTREMES[random.nextInt(EXTREMES.length)] : random.nextInt(mostTime);
    }

    /** Mostly one of the newest commits or none, so that nets grow deep as well as wide. */
    private int parent() {
        int commits = model.count(0);
        if (random.nextInt(30) == 0) {
            return random.nextBoolean() ? commits : -2;
        }
        int choices = 1 + Math.min(commits, 6);
        int choice = random.nextInt(choices);
        return choice == 0 ? -1 : commits - choice;
    }

    private int commit() {
        int commits = model.count(0);
        return random.nextInt(25) == 0 ? (random.nextBoolean() ? commits : -1) : random.nextInt(commits + 1);
    }

    private int holder() {
        return random.nextInt(30) == 0 ? (random.nextBoolean() ? 2 : -1) : random.nextInt(2);
    }
}
