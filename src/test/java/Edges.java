import java.util.Arrays;
import java.util.function.IntConsumer;

/** Numbers at the ends of what is let in and beyond them, and calls tried with each of them. */
final class Edges {
    static final int LEAST = Integer.MIN_VALUE;
    static final int GREATEST = Integer.MAX_VALUE;

    // Far ones that would come back into a small range, if they were shifted by or multiplied unseen.
    private static final int[] FAR = {
        LEAST, LEAST + 1, -(1 << 30), -32, -31, -2, 32, 33, 1999, 2000, 1 << 29, 1 << 30, (1 << 30) + 1, GREATEST
    };

    private Edges() {
    }

    /** The next numbers below first and above last, and the far ones that lie outside of these. */
    static int[] outside(int first, int last) {
        int[] numbers = Arrays.copyOf(FAR, FAR.length + 2);
        numbers[FAR.length] = first - 1;
        numbers[FAR.length + 1] = last + 1;
        return Arrays.stream(numbers).filter(number -> number < first || number > last).toArray();
    }

    static void allBad(String what, int[] numbers, IntConsumer call) {
        for (int number : numbers) {
            Expect.bad(what + " of " + number, () -> call.accept(number));
        }
    }

    static void allNotThere(String what, int[] numbers, IntConsumer call) {
        for (int number : numbers) {
            Expect.notThere(what + " of " + number, () -> call.accept(number));
        }
    }
}
