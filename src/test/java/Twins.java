import java.util.ArrayList;
import java.util.IdentityHashMap;
import java.util.List;
import java.util.Map;
import java.util.function.Supplier;
import java.util.function.ToIntFunction;

/**
 * Rings that were made alike. A call that changes nothing leaves them alike, whatever is looked at, asked, loaded,
 * undone or restored then. Each such question is put to a ring of its own: an object is promised 512 calls alone.
 */
final class Twins {
    private static final Map<Supplier<ScanRing>, List<String>> PORTRAITS = new IdentityHashMap<>();

    private Twins() {
    }

    /** A call with a number that is looked for at the ends of its range. */
    interface Call {
        int of(ScanRing ring, int number);
    }

    /** The least and the most number are taken; those beyond them are refused, and nothing changes. */
    static void dueWithin(int least, int most, String call, Supplier<ScanRing> start, Call with) {
        int[] taken = {least, Math.min(least + 1, most), Math.max(most - 1, least), most};
        for (int number : taken) {
            int answer = with.of(start.get(), number);
            Check.holds(call + " with " + number + " is taken, not " + answer, !isError(answer));
        }
        int[] refused = {least - 1, most + 1, Integer.MIN_VALUE, Integer.MAX_VALUE};
        for (int number : refused) {
            refused(call + " with " + number, start, ring -> with.of(ring, number), Rings.INVALID);
        }
    }

    private static boolean isError(int answer) {
        return answer == Rings.INVALID || answer == Rings.ILLEGAL || answer == Rings.FULL || answer == Rings.NONE;
    }

    /** The call answers with the error, and nothing changes. */
    static void refused(String call, Supplier<ScanRing> start, ToIntFunction<ScanRing> asked, int error) {
        Check.due(call, asked.applyAsInt(start.get()), error);
        changesNothing(call, start, asked);
    }

    static void changesNothing(String call, Supplier<ScanRing> start, ToIntFunction<ScanRing> asked) {
        alike(call + " changes nothing", start, () -> {
            ScanRing ring = start.get();
            asked.applyAsInt(ring);
            return ring;
        });
    }

    static void alike(String what, Supplier<ScanRing> start, Supplier<ScanRing> other) {
        List<String> wanted = PORTRAITS.computeIfAbsent(start, Twins::portraitOf);
        List<String> found = portraitOf(other);
        String difference = "";
        for (int line = 0; line < wanted.size() && difference.isEmpty(); line++) {
            if (!wanted.get(line).equals(found.get(line))) {
                difference = ": " + found.get(line) + " and not " + wanted.get(line);
            }
        }
        Check.holds(what + difference, difference.isEmpty());
    }

    private static List<String> portraitOf(Supplier<ScanRing> start) {
        List<String> lines = new ArrayList<>();
        lines.add("looks" + looks(start.get()));
        lines.add("log" + log(start.get()));
        lines.add("questions" + questions(start.get()));
        ScanRing loaded = start.get();
        lines.add("load " + loaded.load() + looks(loaded));
        for (int place = 0; place < 2; place++) {
            ScanRing restored = start.get();
            lines.add("restore " + restored.restore(place) + looks(restored));
        }
        for (int states = 1; states <= 5; states++) {
            ScanRing undone = undone(start, states);
            lines.add("undo of " + states + looks(undone));
        }
        lines.add("undo, log" + log(undone(start, 1)));
        for (int place = 0; place < 2; place++) {
            ScanRing undone = undone(start, 1);
            lines.add("undo, restore " + undone.restore(place) + looks(undone));
        }
        return lines;
    }

    private static ScanRing undone(Supplier<ScanRing> start, int states) {
        ScanRing ring = start.get();
        for (int state = 0; state < states; state++) {
            ring.undo();
        }
        return ring;
    }

    private static String looks(ScanRing ring) {
        StringBuilder looks = new StringBuilder();
        for (int what = 0; what <= 12; what++) {
            looks.append(' ').append(ring.count(what));
        }
        for (int what = 0; what <= 6; what++) {
            looks.append(' ').append(ring.account(what));
        }
        for (int what = 0; what <= 2; what++) {
            looks.append(' ').append(ring.held(what));
        }
        for (int number = 0; number < 64; number++) {
            looks.append(' ').append(ring.channel(number / 8, number % 8));
        }
        return looks.append(' ').append(Rings.list(ring)).toString();
    }

    private static String log(ScanRing ring) {
        StringBuilder log = new StringBuilder();
        for (int number = 0; number < 165; number++) {
            log.append(' ').append(ring.sample(number / 5, number % 5));
        }
        return log.toString();
    }

    private static String questions(ScanRing ring) {
        StringBuilder answers = new StringBuilder();
        for (int entry = 0; entry < 16; entry++) {
            answers.append(' ').append(ring.why(entry)).append(' ').append(ring.settleFor(entry, 100));
            for (int what = 0; what < 3; what++) {
                answers.append(' ').append(ring.would(entry, what));
            }
        }
        answers.append(' ').append(ring.bestRule()).append(' ').append(ring.groundsNeeded());
        for (int number = 0; number < 24; number++) {
            answers.append(' ').append(ring.value(number / 3, number % 3 * 4999));
        }
        return answers.toString();
    }
}
