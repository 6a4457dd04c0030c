import java.util.function.IntUnaryOperator;

/** Counts answers that are due and those that are not, and prints the latter. */
final class Check {
    private static int passed;
    private static int failed;
    private static String promise = "";

    private Check() {
    }

    /** The sentence that the next answers are due by; it is printed with those that are not due. */
    static void by(String sentence) {
        promise = sentence.isEmpty() ? "" : "[" + sentence + "] ";
    }

    static void due(String call, long got, long want) {
        if (got == want) {
            passed++;
        } else {
            failed++;
            System.out.println("FAILED " + promise + call + " answered " + got + ", due is " + want);
        }
    }

    static void holds(String what, boolean answer) {
        due(what, answer ? 1 : 0, 1);
    }

    /** Compares the answers of one kind of call for the arguments 0, 1, 2 and so on. */
    static void dueInOrder(String call, IntUnaryOperator got, int... want) {
        for (int index = 0; index < want.length; index++) {
            due(call + " with " + index, got.applyAsInt(index), want[index]);
        }
    }

    static int answers() {
        return passed + failed;
    }

    static int failures() {
        return failed;
    }

    static String summary() {
        return passed + " passed, " + failed + " failed";
    }
}
