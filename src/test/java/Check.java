/** Counts answers that are due and those that are not, and prints the latter. */
final class Check {
    private static int passed;
    private static int failed;

    private Check() {
    }

    static void due(String call, long got, long want) {
        if (got == want) {
            passed++;
        } else {
            failed++;
            System.out.println("FAILED " + call + " answered " + got + ", due is " + want);
        }
    }

    static void holds(String what, boolean answer) {
        due(what, answer ? 1 : 0, 1);
    }

    /** Compares the answers of one kind of call for the arguments 0, 1, 2 and so on. */
    static void dueInOrder(String call, java.util.function.IntUnaryOperator got, int... want) {
        for (int index = 0; index < want.length; index++) {
            due(call + " with " + index, got.applyAsInt(index), want[index]);
        }
    }

    static int failures() {
        return failed;
    }

    static String summary() {
        return passed + " passed, " + failed + " failed";
    }
}
