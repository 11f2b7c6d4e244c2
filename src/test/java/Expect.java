import java.util.NoSuchElementException;

/** What the project's tests share: answers compared, exceptions compared, and the exit code. */
final class Expect {
    interface Call {
        void run();
    }

    private static int wrong = 0;

    private Expect() {
    }

    static void equal(String what, Object got, Object due) {
        if (!due.equals(got)) {
            wrong++;
            System.out.println(what + " answered " + got + ", due is " + due);
        }
    }

    static void bad(String what, Call call) {
        equal(what + " throws", thrownBy(call), IllegalArgumentException.class.getName());
    }

    static void refused(String what, Call call) {
        equal(what + " throws", thrownBy(call), IllegalStateException.class.getName());
    }

    static void notThere(String what, Call call) {
        equal(what + " throws", thrownBy(call), NoSuchElementException.class.getName());
    }

    static void end() {
        System.out.println(wrong == 0 ? "all answers are as due" : wrong + " answers are not as due");
        System.exit(wrong == 0 ? 0 : 1);
    }

    private static String thrownBy(Call call) {
        try {
            call.run();
            return "nothing";
        } catch (Throwable thrown) {
            return thrown.getClass().getName();
        }
    }
}
