import java.util.ArrayDeque;
import java.util.ArrayList;
import java.util.Arrays;
import java.util.Comparator;
import java.util.Deque;
import java.util.HashMap;
import java.util.List;
import java.util.Map;

/**
 * The document once more, written for plainness with the Java library and in other ways than ScanRing:
 * states are copied whole, orders are sorted lists, texts are matched against the patterns of the items.
 */
final class Model {
    static final int INVALID = -10000001;
    static final int ILLEGAL = -10000002;
    static final int FULL = -10000003;
    static final int NONE = -10000009;

    record Source(int kind, int level, int second, int period) {
    }

    record Entry(int place, int settle) {
    }

    record Sample(int place, int time, int reading, int carry, int error) {
    }

    /** What a snapshot keeps. */
    static final class Setup {
        final Map<Integer, Source> sources = new HashMap<>();
        final Map<Integer, Integer> resistances = new HashMap<>();
        List<Entry> list = new ArrayList<>();
        int[] settings = {2048, 1000, 0};

        Setup copy() {
            Setup copy = new Setup();
            copy.sources.putAll(sources);
            copy.resistances.putAll(resistances);
            copy.list = new ArrayList<>(list);
            copy.settings = settings.clone();
            return copy;
        }

        Source source(int channel) {
            return sources.getOrDefault(channel, new Source(0, 0, 0, 0));
        }

        int resistance(int place) {
            return resistances.getOrDefault(place, 0);
        }

        int value(int place, long time) {
            if (place == 8) {
                return 0;
            }
            if (place == 9) {
                return settings[0];
            }
            Source source = source(place);
            double value = source.level;
            if (source.kind == 1) {
                value += Math.floor(source.second * (double) time / 16.0);
            }
            if (source.kind == 2 && time - time / source.period * source.period >= source.period / 2) {
                value = source.second;
            }
            return (int) Math.max(0, Math.min(4095, value));
        }

        float slot(float h, int place, int time) {
            if (place == 8) {
                return 0.0f;
            }
            if (place == 9) {
                return (float) settings[0];
            }
            float x = (float) value(place, time);
            int r = resistance(place);
            return r == 0 ? x : h + (x - h) / (float) (1 + r);
        }

        int reading(float h, int gain, int offset) {
            float f = h * ((float) gain / 1000.0f) + (float) offset + 0.5f;
            if (f < 0.0f) {
                return 0;
            }
            int reading = (int) f;
            return reading > 4095 ? 4095 : reading;
        }

        int slots() {
            return list.stream().mapToInt(entry -> entry.settle + 1).sum();
        }
    }

    /** A converter's way through a list, from a charge and a time. */
    final class Way {
        final Setup setup;
        float h = state.h;
        int time = state.time();
        int carries;
        Sample last;

        Way(Setup setup) {
            this.setup = setup;
        }

        Way through(List<Entry> entries) {
            entries.forEach(this::carryOut);
            return this;
        }

        Sample carryOut(Entry entry) {
            float from0 = 0.0f;
            for (int slot = 0; slot < entry.settle + 1; slot++) {
                h = setup.slot(h, entry.place, time + slot);
                from0 = setup.slot(from0, entry.place, time + slot);
            }
            time += entry.settle + 1;
            int reading = setup.reading(h, setup.settings[1], setup.settings[2]);
            int carry = reading - setup.reading(from0, setup.settings[1], setup.settings[2]);
            carries += Math.abs(carry);
            last = new Sample(entry.place, time - 1, reading, carry, reading - setup.value(entry.place, time - 1));
            return last;
        }
    }

    /** Everything but the text and the history. */
    static final class State {
        Setup setup = new Setup();
        Map<Integer, Setup> snapshots = new HashMap<>();
        List<Sample> log = new ArrayList<>();
        Map<Integer, Integer> latest = new HashMap<>();
        int[] accounts = new int[6];
        float h;

        State copy() {
            State copy = new State();
            copy.setup = setup.copy();
            snapshots.forEach((place, kept) -> copy.snapshots.put(place, kept.copy()));
            copy.log = new ArrayList<>(log);
            copy.latest = new HashMap<>(latest);
            copy.accounts = accounts.clone();
            copy.h = h;
            return copy;
        }

        int time() {
            return accounts[0] + accounts[1] + accounts[2] + accounts[3];
        }
    }

    private State state = new State();
    private final Deque<State> history = new ArrayDeque<>();
    private final StringBuilder text = new StringBuilder();

    private void action() {
        history.addLast(state.copy());
        if (history.size() > 5) {
            history.removeFirst();
        }
    }

    private static boolean in(int number, int least, int most) {
        return least <= number && number <= most;
    }

    private boolean isEntry(int entry) {
        return in(entry, 0, state.setup.list.size() - 1);
    }

    int setSource(int channel, int kind, int level, int second, int period) {
        boolean right = kind == 0 && second == 0 && period == 0
                || kind == 1 && in(second, -64, 64) && period == 0
                || kind == 2 && in(second, 0, 4095) && in(period, 2, 200);
        if (!right || !in(channel, 0, 7) || !in(level, 0, 4095)) {
            return INVALID;
        }
        action();
        int previous = state.setup.source(channel).kind;
        state.setup.sources.put(channel, new Source(kind, level, second, period));
        return previous;
    }

    int setResistance(int channel, int resistance) {
        if (!in(channel, 0, 7) || !in(resistance, 0, 31)) {
            return INVALID;
        }
        action();
        int previous = state.setup.resistance(channel);
        state.setup.resistances.put(channel, resistance);
        return previous;
    }

    int set(int what, int value) {
        int[][] ranges = {{0, 4095}, {900, 1100}, {-100, 100}};
        if (!in(what, 0, 2) || !in(value, ranges[what][0], ranges[what][1])) {
            return INVALID;
        }
        action();
        int previous = state.setup.settings[what];
        state.setup.settings[what] = value;
        return previous;
    }

    int addEntry(int place, int settle, int before) {
        if (!in(place, 0, 9) || !in(settle, 0, 7) || !in(before, 0, state.setup.list.size())) {
            return INVALID;
        }
        if (state.setup.list.size() == 16) {
            return FULL;
        }
        action();
        state.setup.list.add(before, new Entry(place, settle));
        return state.setup.list.size();
    }

    int removeEntry(int entry) {
        if (!isEntry(entry)) {
            return INVALID;
        }
        action();
        state.setup.list.remove(entry);
        return state.setup.list.size();
    }

    int setSettle(int entry, int settle) {
        if (!isEntry(entry) || !in(settle, 0, 7)) {
            return INVALID;
        }
        action();
        Entry previous = state.setup.list.get(entry);
        state.setup.list.set(entry, new Entry(previous.place, settle));
        return previous.settle;
    }

    private List<Integer> ordered(int rule) {
        List<Integer> numbers = new ArrayList<>();
        for (int entry = 0; entry < state.setup.list.size(); entry++) {
            numbers.add(rule == 3 ? 0 : numbers.size(), entry);
        }
        Setup setup = state.setup;
        if (rule < 3) {
            numbers.sort(Comparator.comparingInt(number -> {
                int place = setup.list.get(number).place;
                return rule == 0 ? place : rule == 1 ? setup.resistance(place) : setup.value(place, state.time());
            }));
        }
        return numbers;
    }

    private List<Entry> listOf(List<Integer> numbers) {
        List<Entry> list = new ArrayList<>();
        numbers.forEach(number -> list.add(state.setup.list.get(number)));
        return list;
    }

    int order(int rule) {
        if (!in(rule, 0, 3)) {
            return INVALID;
        }
        action();
        List<Integer> numbers = ordered(rule);
        state.setup.list = listOf(numbers);
        int others = 0;
        for (int entry = 0; entry < numbers.size(); entry++) {
            others += numbers.get(entry) == entry ? 0 : 1;
        }
        return others;
    }

    int scan(int times) {
        if (!in(times, 1, 20)) {
            return INVALID;
        }
        if (state.setup.list.isEmpty()) {
            return ILLEGAL;
        }
        if (state.time() + times * state.setup.slots() > 9999) {
            return FULL;
        }
        action();
        Way way = new Way(state.setup);
        for (int time = 0; time < times; time++) {
            for (Entry entry : state.setup.list) {
                book(way.carryOut(entry), entry);
            }
        }
        state.h = way.h;
        return way.carries;
    }

    private void book(Sample sample, Entry entry) {
        state.log.add(0, sample);
        if (state.log.size() > 32) {
            state.log.remove(32);
        }
        state.latest.put(entry.place, sample.reading);
        state.accounts[Math.max(0, entry.place - 7)] += entry.settle + 1;
        state.accounts[4]++;
        state.accounts[5] += Math.abs(sample.carry);
    }

    int pass(int slots) {
        if (!in(slots, 1, 1000)) {
            return INVALID;
        }
        if (state.time() + slots > 9999) {
            return FULL;
        }
        action();
        state.accounts[3] += slots;
        return state.time();
    }

    int take(int place) {
        if (!in(place, 0, 1)) {
            return INVALID;
        }
        action();
        state.snapshots.put(place, state.setup.copy());
        return state.setup.list.size();
    }

    int restore(int place) {
        if (!in(place, 0, 1)) {
            return INVALID;
        }
        if (!state.snapshots.containsKey(place)) {
            return ILLEGAL;
        }
        action();
        state.setup = state.snapshots.get(place).copy();
        return state.setup.list.size();
    }

    int undo() {
        if (history.isEmpty()) {
            return ILLEGAL;
        }
        state = history.removeLast();
        return history.size();
    }

    int append(int character) {
        if (!in(character, 1, 255)) {
            return INVALID;
        }
        if (text.length() == 140) {
            return FULL;
        }
        return text.append((char) character).length();
    }

    int clearText() {
        int length = text.length();
        text.setLength(0);
        return length;
    }

    /** The items: C channel, L level, S slope, P period, R resistance, T settle slots, others stand for themselves. */
    private static final String[] ITEMS = {"C=L;", "C=L+S;", "C=L-S;", "C=L,L/P;", "CrR;", "C:T;", "g:T;", "f:T;"};
    private static final Map<Character, int[]> RANGES = Map.of('C', new int[] {0, 7}, 'L', new int[] {0, 4095},
            'S', new int[] {0, 64}, 'P', new int[] {2, 200}, 'R', new int[] {0, 31}, 'T', new int[] {0, 7});

    int load() {
        Setup draft = state.setup.copy();
        List<String> tokens = new ArrayList<>();
        List<Integer> places = new ArrayList<>();
        split(tokens, places);
        List<String> alive = new ArrayList<>(Arrays.asList(ITEMS));
        List<String> item = new ArrayList<>();
        int items = 0;
        for (int index = 0; index < tokens.size(); index++) {
            String token = tokens.get(index);
            int at = item.size();
            alive.removeIf(pattern -> !fits(pattern.charAt(at), token));
            if (alive.isEmpty() || token.equals(":") && draft.list.size() == 16) {
                return -20000000 - places.get(index);
            }
            item.add(token);
            if (token.equals(";")) {
                carryOut(draft, alive.get(0), item);
                items++;
                item.clear();
                alive = new ArrayList<>(Arrays.asList(ITEMS));
            }
        }
        if (!item.isEmpty()) {
            return -20000000 - text.length();
        }
        action();
        state.setup = draft;
        text.setLength(0);
        return items;
    }

    private void split(List<String> tokens, List<Integer> places) {
        int at = 0;
        while (at < text.length()) {
            int end = at + 1;
            if (isDigit(text.charAt(at))) {
                while (end < text.length() && isDigit(text.charAt(end))) {
                    end++;
                }
            }
            if (text.charAt(at) != ' ') {
                tokens.add(text.substring(at, end));
                places.add(at);
            }
            at = end;
        }
    }

    private static boolean isDigit(char character) {
        return "0123456789".indexOf(character) >= 0;
    }

    private static boolean fits(char sign, String token) {
        int[] range = RANGES.get(sign);
        if (range == null) {
            return token.equals(String.valueOf(sign));
        }
        return token.matches("0|[1-9][0-9]{0,5}") && in(Integer.parseInt(token), range[0], range[1]);
    }

    private static void carryOut(Setup draft, String pattern, List<String> item) {
        int place = item.get(0).equals("g") ? 8 : item.get(0).equals("f") ? 9 : Integer.parseInt(item.get(0));
        int first = Integer.parseInt(item.get(2));
        int second = item.size() > 4 ? Integer.parseInt(item.get(4)) : 0;
        switch (pattern) {
            case "C=L;" -> draft.sources.put(place, new Source(0, first, 0, 0));
            case "C=L+S;" -> draft.sources.put(place, new Source(1, first, second, 0));
            case "C=L-S;" -> draft.sources.put(place, new Source(1, first, -second, 0));
            case "C=L,L/P;" -> draft.sources.put(place, new Source(2, first, second, Integer.parseInt(item.get(6))));
            case "CrR;" -> draft.resistances.put(place, first);
            default -> draft.list.add(new Entry(place, first));
        }
    }

    int count(int what) {
        return switch (what) {
            case 0 -> state.time();
            case 1 -> state.setup.list.size();
            case 2, 3, 4 -> state.setup.settings[what - 2];
            case 5 -> state.log.size();
            case 6 -> state.snapshots.size();
            case 7 -> state.setup.slots();
            case 8 -> history.size();
            case 9 -> text.length();
            case 10, 11, 12 -> sourcesOf(what - 10);
            default -> INVALID;
        };
    }

    private int sourcesOf(int kind) {
        int sources = 0;
        for (int channel = 0; channel < 8; channel++) {
            sources += state.setup.source(channel).kind == kind ? 1 : 0;
        }
        return sources;
    }

    int channel(int channel, int what) {
        if (!in(channel, 0, 7)) {
            return INVALID;
        }
        Source source = state.setup.source(channel);
        return switch (what) {
            case 0 -> source.kind;
            case 1 -> source.level;
            case 2 -> source.second;
            case 3 -> source.period;
            case 4 -> state.setup.resistance(channel);
            case 5 -> state.latest.getOrDefault(channel, NONE);
            case 6 -> corrected(state.latest.get(channel), state.latest.get(8), state.latest.get(9));
            case 7 -> (int) state.setup.list.stream().filter(entry -> entry.place == channel).count();
            default -> INVALID;
        };
    }

    private int corrected(Integer y, Integer a, Integer b) {
        if (y == null || a == null || b == null || b <= a) {
            return NONE;
        }
        return (int) Math.floor((y - a) * (double) state.setup.settings[0] / (b - a));
    }

    int entry(int entry, int what) {
        if (entry < 0 || !in(what, 0, 1)) {
            return INVALID;
        }
        if (!isEntry(entry)) {
            return NONE;
        }
        Entry found = state.setup.list.get(entry);
        return what == 0 ? found.place : found.settle;
    }

    int value(int channel, int time) {
        return in(channel, 0, 7) && in(time, 0, 9999) ? state.setup.value(channel, time) : INVALID;
    }

    int sample(int back, int what) {
        if (back < 0 || !in(what, 0, 4)) {
            return INVALID;
        }
        if (back >= state.log.size()) {
            return NONE;
        }
        Sample sample = state.log.get(back);
        return new int[] {sample.place, sample.time, sample.reading, sample.carry, sample.error}[what];
    }

    int account(int what) {
        return in(what, 0, 5) ? state.accounts[what] : what == 6 ? state.time() : INVALID;
    }

    int held(int what) {
        return switch (what) {
            case 0 -> (int) state.h;
            case 1 -> state.setup.reading(state.h, state.setup.settings[1], state.setup.settings[2]);
            case 2 -> (int) (state.h * 256.0f);
            default -> INVALID;
        };
    }

    private Way wayTo(int entries) {
        return new Way(state.setup).through(state.setup.list.subList(0, entries));
    }

    int would(int entry, int what) {
        if (!isEntry(entry) || !in(what, 0, 2)) {
            return INVALID;
        }
        Sample sample = wayTo(entry + 1).last;
        return what == 0 ? sample.reading : what == 1 ? sample.carry : sample.error;
    }

    int why(int entry) {
        if (!isEntry(entry)) {
            return INVALID;
        }
        Way way = wayTo(entry + 1);
        if (way.last.error == 0) {
            return 0;
        }
        if (way.last.carry != 0) {
            return way.last.carry > 0 ? 1 : 2;
        }
        int plain = state.setup.reading(way.h, 1000, 0);
        return plain == state.setup.value(way.last.place, way.last.time) ? 3 : 4;
    }

    int settleFor(int entry, int limit) {
        if (!isEntry(entry) || !in(limit, 0, 4095)) {
            return INVALID;
        }
        for (int settle = 0; settle < 8; settle++) {
            Sample sample = wayTo(entry).carryOut(new Entry(state.setup.list.get(entry).place, settle));
            if (Math.abs(sample.error) <= limit) {
                return settle;
            }
        }
        return NONE;
    }

    int bestRule() {
        int[] carries = new int[4];
        int least = wayTo(state.setup.list.size()).carries;
        int best = -1;
        for (int rule = 3; rule >= 0; rule--) {
            carries[rule] = new Way(state.setup).through(listOf(ordered(rule))).carries;
        }
        for (int rule = 0; rule < 4; rule++) {
            if (carries[rule] < least) {
                least = carries[rule];
                best = rule;
            }
        }
        return best;
    }

    int groundsNeeded() {
        List<Entry> withGrounds = new ArrayList<>();
        int grounds = 0;
        for (Entry entry : state.setup.list) {
            if (new Way(state.setup).through(withGrounds).carryOut(entry).carry != 0) {
                withGrounds.add(new Entry(8, 0));
                grounds++;
            }
            withGrounds.add(entry);
        }
        return grounds;
    }
}
