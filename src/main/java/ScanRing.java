/**
 * A ring of channels that one converter samples by turns. What each call promises is told in
 * ../shared/DOC.md; the part of Java that this file keeps to, in ../shared/LANGUAGE.md.
 *
 * All rows are made in the constructor and used again, so that no later call makes an object.
 */
public final class ScanRing {
    public static final int INVALID_ARGUMENT = -10000001;
    public static final int ILLEGAL_STATE = -10000002;
    public static final int CAPACITY_EXCEEDED = -10000003;
    public static final int NONE = -10000009;

    private static final int CHANNELS = 8;
    private static final int GROUND = 8;
    private static final int REFERENCE = 9;
    private static final int PLACES = 10;

    private static final int CONSTANT = 0;
    private static final int RISING = 1;
    private static final int JUMPING = 2;

    private static final int TOP_LEVEL = 4095;
    private static final int STEEPEST = 64;
    private static final int SHORTEST_PERIOD = 2;
    private static final int LONGEST_PERIOD = 200;
    private static final int TOP_RESISTANCE = 31;
    private static final int TOP_SETTLE = 7;
    private static final int PLAIN_GAIN = 1000;

    private static final int LAST_TIME = 9999;
    private static final int MOST_ENTRIES = 16;
    private static final int MOST_SCANS = 20;
    private static final int LONGEST_PASS = 1000;
    private static final int MOST_READINGS = 32;
    private static final int MOST_STATES = 5;
    private static final int MOST_CHARACTERS = 140;
    private static final int TOP_CHARACTER = 255;
    private static final char END_OF_TEXT = 0;
    private static final int TEXT_ERROR = -20000000;

    // The columns of a channel, by the numbers that channel() has for them.
    private static final int KIND = 0;
    private static final int LEVEL = 1;
    private static final int SECOND = 2;
    private static final int PERIOD = 3;
    private static final int RESISTANCE = 4;
    private static final int CHANNEL_COLUMNS = 5;
    private static final int LATEST_READING = 5;
    private static final int CORRECTED_READING = 6;
    private static final int ENTRIES_WITH_IT = 7;

    // The columns of an entry, by the numbers that entry() has for them.
    private static final int PLACE = 0;
    private static final int SETTLE = 1;
    private static final int ENTRY_COLUMNS = 2;

    // The columns of a reading in the log, by the numbers that sample() has for them.
    private static final int SAMPLE_PLACE = 0;
    private static final int SAMPLE_TIME = 1;
    private static final int SAMPLE_READING = 2;
    private static final int SAMPLE_CARRY = 3;
    private static final int SAMPLE_ERROR = 4;
    private static final int SAMPLE_COLUMNS = 5;

    // The settings, by the numbers that set() has for them.
    private static final int REFERENCE_LEVEL = 0;
    private static final int GAIN = 1;
    private static final int OFFSET = 2;
    private static final int SETTINGS = 3;

    // The accounts, by the numbers that account() has for them.
    private static final int SLOTS_ON_CHANNELS = 0;
    private static final int SLOTS_ON_GROUND = 1;
    private static final int SLOTS_ON_REFERENCE = 2;
    private static final int SLOTS_PASSED = 3;
    private static final int READINGS = 4;
    private static final int CARRIES = 5;
    private static final int ACCOUNTS = 6;

    // The rules of order().
    private static final int BY_PLACE = 0;
    private static final int BY_RESISTANCE = 1;
    private static final int BY_VALUE = 2;
    private static final int RULES = 4;

    private final State now;
    private final History history;
    private final Converter converter;
    private final Sorter sorter;
    private final Setup draft;
    private final TextReader reader;

    public ScanRing() {
        now = new State();
        history = new History();
        converter = new Converter();
        sorter = new Sorter();
        draft = new Setup();
        reader = new TextReader();
    }

    // ---- sources and settings

    public int setSource(int channel, int kind, int level, int second, int period) {
        if (!isChannel(channel) || !isSource(kind, level, second, period)) {
            return INVALID_ARGUMENT;
        }
        history.keep(now);
        int previous = now.setup.channels.at(channel, KIND);
        now.setup.putSource(channel, kind, level, second, period);
        return previous;
    }

    public int setResistance(int channel, int resistance) {
        if (!isChannel(channel) || !isWithin(resistance, 0, TOP_RESISTANCE)) {
            return INVALID_ARGUMENT;
        }
        history.keep(now);
        int previous = now.setup.channels.at(channel, RESISTANCE);
        now.setup.channels.put(channel, RESISTANCE, resistance);
        return previous;
    }

    public int set(int what, int value) {
        if (!isSetting(what, value)) {
            return INVALID_ARGUMENT;
        }
        history.keep(now);
        int previous = now.setup.setting(what);
        now.setup.settings.put(what, 0, value);
        return previous;
    }

    // ---- the scan list

    public int addEntry(int place, int settle, int before) {
        int entries = now.setup.entries;
        if (!isWithin(place, 0, PLACES - 1) || !isSettle(settle) || !isWithin(before, 0, entries)) {
            return INVALID_ARGUMENT;
        }
        if (entries >= MOST_ENTRIES) {
            return CAPACITY_EXCEEDED;
        }
        history.keep(now);
        now.setup.insert(place, settle, before);
        return now.setup.entries;
    }

    public int removeEntry(int entry) {
        if (!isEntry(entry)) {
            return INVALID_ARGUMENT;
        }
        history.keep(now);
        now.setup.removeAt(entry);
        return now.setup.entries;
    }

    public int setSettle(int entry, int settle) {
        if (!isEntry(entry) || !isSettle(settle)) {
            return INVALID_ARGUMENT;
        }
        history.keep(now);
        int previous = now.setup.list.at(entry, SETTLE);
        now.setup.list.put(entry, SETTLE, settle);
        return previous;
    }

    public int order(int rule) {
        if (!isWithin(rule, 0, RULES - 1)) {
            return INVALID_ARGUMENT;
        }
        history.keep(now);
        return sorter.arrange(now.setup, rule, now.time());
    }

    // ---- scans

    public int scan(int times) {
        if (!isWithin(times, 1, MOST_SCANS)) {
            return INVALID_ARGUMENT;
        }
        if (now.setup.entries == 0) {
            return ILLEGAL_STATE;
        }
        if (now.time() + times * now.setup.slotsOfScan() > LAST_TIME) {
            return CAPACITY_EXCEEDED;
        }
        history.keep(now);
        int carriesBefore = now.accounts.at(CARRIES, 0);
        converter.start(now.charge, now.time());
        for (int done = 0; done < times; done++) {
            scanOnce();
        }
        return now.accounts.at(CARRIES, 0) - carriesBefore;
    }

    public int pass(int slots) {
        if (!isWithin(slots, 1, LONGEST_PASS)) {
            return INVALID_ARGUMENT;
        }
        if (now.time() + slots > LAST_TIME) {
            return CAPACITY_EXCEEDED;
        }
        history.keep(now);
        now.addTo(SLOTS_PASSED, slots);
        return now.time();
    }

    // ---- snapshots

    public int take(int place) {
        if (!isSnapshotPlace(place)) {
            return INVALID_ARGUMENT;
        }
        history.keep(now);
        Snapshot snapshot = now.snapshotAt(place);
        snapshot.taken = true;
        snapshot.setup.copyFrom(now.setup);
        return snapshot.setup.entries;
    }

    public int restore(int place) {
        if (!isSnapshotPlace(place)) {
            return INVALID_ARGUMENT;
        }
        Snapshot snapshot = now.snapshotAt(place);
        if (!snapshot.taken) {
            return ILLEGAL_STATE;
        }
        history.keep(now);
        now.setup.copyFrom(snapshot.setup);
        return now.setup.entries;
    }

    public int undo() {
        if (history.kept == 0) {
            return ILLEGAL_STATE;
        }
        history.bringBack(now);
        return history.kept;
    }

    // ---- text

    public int append(int character) {
        if (!isWithin(character, 1, TOP_CHARACTER)) {
            return INVALID_ARGUMENT;
        }
        if (reader.text.length >= MOST_CHARACTERS) {
            return CAPACITY_EXCEEDED;
        }
        reader.text.add(character);
        return reader.text.length;
    }

    public int clearText() {
        int previous = reader.text.length;
        reader.text.length = 0;
        return previous;
    }

    public int load() {
        int items = reader.readItems(now.setup);
        if (reader.hasFailed()) {
            return TEXT_ERROR - reader.failedAt;
        }
        history.keep(now);
        now.setup.copyFrom(reader.draft);
        reader.text.length = 0;
        return items;
    }

    // ---- looking

    public int count(int what) {
        switch (what) {
            case 0: return now.time();
            case 1: return now.setup.entries;
            case 2: return now.setup.setting(REFERENCE_LEVEL);
            case 3: return now.setup.setting(GAIN);
            case 4: return now.setup.setting(OFFSET);
            case 5: return now.log.kept;
            case 6: return now.snapshotsTaken();
            case 7: return now.setup.slotsOfScan();
            case 8: return history.kept;
            case 9: return reader.text.length;
            case 10: return now.setup.sourcesOf(CONSTANT);
            case 11: return now.setup.sourcesOf(RISING);
            case 12: return now.setup.sourcesOf(JUMPING);
            default: return INVALID_ARGUMENT;
        }
    }

    public int channel(int channel, int what) {
        if (!isChannel(channel) || !isWithin(what, 0, ENTRIES_WITH_IT)) {
            return INVALID_ARGUMENT;
        }
        switch (what) {
            case LATEST_READING: return now.latest.at(channel, 0);
            case CORRECTED_READING: return now.correctedReading(channel);
            case ENTRIES_WITH_IT: return now.setup.entriesOf(channel);
            default: return now.setup.channels.at(channel, what);
        }
    }

    public int entry(int entry, int what) {
        if (entry < 0 || !isWithin(what, 0, ENTRY_COLUMNS - 1)) {
            return INVALID_ARGUMENT;
        }
        return isEntry(entry) ? now.setup.list.at(entry, what) : NONE;
    }

    public int value(int channel, int time) {
        if (!isChannel(channel) || !isWithin(time, 0, LAST_TIME)) {
            return INVALID_ARGUMENT;
        }
        return now.setup.valueAt(channel, time);
    }

    public int sample(int back, int what) {
        if (back < 0 || !isWithin(what, 0, SAMPLE_COLUMNS - 1)) {
            return INVALID_ARGUMENT;
        }
        return back < now.log.kept ? now.log.part(back, what) : NONE;
    }

    public int account(int what) {
        if (what == ACCOUNTS) {
            return now.time();
        }
        return isWithin(what, 0, ACCOUNTS - 1) ? now.accounts.at(what, 0) : INVALID_ARGUMENT;
    }

    public int held(int what) {
        switch (what) {
            case 0: return (int) now.charge;
            case 1: return now.setup.readingOf(now.charge);
            case 2: return (int) (now.charge * 256.0f);
            default: return INVALID_ARGUMENT;
        }
    }

    // ---- questions, which change nothing

    public int would(int entry, int what) {
        if (!isEntry(entry) || !isWithin(what, 0, 2)) {
            return INVALID_ARGUMENT;
        }
        tryEntries(now.setup, entry + 1);
        switch (what) {
            case 0: return converter.reading;
            case 1: return converter.carry;
            default: return converter.error();
        }
    }

    public int why(int entry) {
        if (!isEntry(entry)) {
            return INVALID_ARGUMENT;
        }
        tryEntries(now.setup, entry + 1);
        if (converter.error() == 0) {
            return 0;
        }
        if (converter.carry != 0) {
            return converter.carry > 0 ? 1 : 2;
        }
        return readingWith(converter.charge, PLAIN_GAIN, 0) == converter.target ? 3 : 4;
    }

    public int settleFor(int entry, int limit) {
        if (!isEntry(entry) || !isWithin(limit, 0, TOP_LEVEL)) {
            return INVALID_ARGUMENT;
        }
        tryEntries(now.setup, entry);
        float charge = converter.charge;
        int time = converter.time;
        int place = now.setup.list.at(entry, PLACE);
        for (int settle = 0; settle <= TOP_SETTLE; settle++) {
            converter.start(charge, time);
            converter.carryOut(now.setup, place, settle);
            if (Math.abs(converter.error()) <= limit) {
                return settle;
            }
        }
        return NONE;
    }

    public int bestRule() {
        int best = -1;
        int least = tryEntries(now.setup, now.setup.entries);
        for (int rule = 0; rule < RULES; rule++) {
            draft.copyFrom(now.setup);
            sorter.arrange(draft, rule, now.time());
            int carries = tryEntries(draft, draft.entries);
            if (carries < least) {
                least = carries;
                best = rule;
            }
        }
        return best;
    }

    public int groundsNeeded() {
        int grounds = 0;
        converter.start(now.charge, now.time());
        for (int entry = 0; entry < now.setup.entries; entry++) {
            float charge = converter.charge;
            int time = converter.time;
            converter.carryOutEntry(now.setup, entry);
            if (converter.carry != 0) {
                grounds++;
                converter.start(charge, time);
                converter.carryOut(now.setup, GROUND, 0);
                converter.carryOutEntry(now.setup, entry);
            }
        }
        return grounds;
    }

    // ---- helpers

    private void scanOnce() {
        for (int entry = 0; entry < now.setup.entries; entry++) {
            converter.carryOutEntry(now.setup, entry);
            now.book(now.setup.list.at(entry, PLACE), now.setup.slotsOfEntry(entry), converter);
        }
    }

    /** Carries out the first entries of a list as if now, and returns the sum of their carries without signs. */
    private int tryEntries(Setup setup, int entries) {
        int carries = 0;
        converter.start(now.charge, now.time());
        for (int entry = 0; entry < entries; entry++) {
            converter.carryOutEntry(setup, entry);
            carries += Math.abs(converter.carry);
        }
        return carries;
    }

    private boolean isEntry(int entry) {
        return isWithin(entry, 0, now.setup.entries - 1);
    }

    private static boolean isWithin(int number, int least, int most) {
        return number >= least && number <= most;
    }

    private static boolean isChannel(int channel) {
        return isWithin(channel, 0, CHANNELS - 1);
    }

    private static boolean isSettle(int settle) {
        return isWithin(settle, 0, TOP_SETTLE);
    }

    private static boolean isSnapshotPlace(int place) {
        return isWithin(place, 0, 1);
    }

    private static boolean isSource(int kind, int level, int second, int period) {
        if (!isWithin(level, 0, TOP_LEVEL)) {
            return false;
        }
        switch (kind) {
            case CONSTANT: return second == 0 && period == 0;
            case RISING: return isWithin(second, -STEEPEST, STEEPEST) && period == 0;
            case JUMPING: return isWithin(second, 0, TOP_LEVEL) && isWithin(period, SHORTEST_PERIOD, LONGEST_PERIOD);
            default: return false;
        }
    }

    private static boolean isSetting(int what, int value) {
        switch (what) {
            case REFERENCE_LEVEL: return isWithin(value, 0, TOP_LEVEL);
            case GAIN: return isWithin(value, 900, 1100);
            case OFFSET: return isWithin(value, -100, 100);
            default: return false;
        }
    }

    private static int readingWith(float charge, int gain, int offset) {
        float reading = charge * ((float) gain / 1000.0f) + (float) offset + 0.5f;
        return reading < 0.0f ? 0 : Math.min((int) reading, TOP_LEVEL);
    }

    /** Whole numbers in rows of one width. Each index is tested here, so that no caller has to. */
    private static final class Table {
        private final int width;
        private final int[] cells;

        Table(int rows, int width) {
            this.width = Math.max(1, width);
            this.cells = new int[Math.max(1, rows) * Math.max(1, width)];
        }

        int at(int row, int column) {
            int index = row * width + column;
            return index >= 0 && index < cells.length ? cells[index] : 0;
        }

        void put(int row, int column, int number) {
            int index = row * width + column;
            if (index >= 0 && index < cells.length) {
                cells[index] = number;
            }
        }

        void copyRow(int from, int to) {
            for (int column = 0; column < width; column++) {
                put(to, column, at(from, column));
            }
        }

        void copyFrom(Table other) {
            System.arraycopy(other.cells, 0, cells, 0, Math.min(other.cells.length, cells.length));
        }
    }

    /** What a snapshot keeps: the sources, the resistances, the scan list and the settings. */
    private static final class Setup {
        final Table channels = new Table(CHANNELS, CHANNEL_COLUMNS);
        final Table list = new Table(MOST_ENTRIES, ENTRY_COLUMNS);
        final Table settings = new Table(SETTINGS, 1);
        int entries;

        Setup() {
            settings.put(REFERENCE_LEVEL, 0, 2048);
            settings.put(GAIN, 0, PLAIN_GAIN);
        }

        void copyFrom(Setup other) {
            channels.copyFrom(other.channels);
            list.copyFrom(other.list);
            settings.copyFrom(other.settings);
            entries = other.entries;
        }

        int setting(int what) {
            return settings.at(what, 0);
        }

        void putSource(int channel, int kind, int level, int second, int period) {
            channels.put(channel, KIND, kind);
            channels.put(channel, LEVEL, level);
            channels.put(channel, SECOND, second);
            channels.put(channel, PERIOD, period);
        }

        int sourcesOf(int kind) {
            int sources = 0;
            for (int channel = 0; channel < CHANNELS; channel++) {
                sources += channels.at(channel, KIND) == kind ? 1 : 0;
            }
            return sources;
        }

        int entriesOf(int place) {
            int found = 0;
            for (int entry = 0; entry < entries; entry++) {
                found += list.at(entry, PLACE) == place ? 1 : 0;
            }
            return found;
        }

        void insert(int place, int settle, int before) {
            for (int entry = entries; entry > before; entry--) {
                list.copyRow(entry - 1, entry);
            }
            list.put(before, PLACE, place);
            list.put(before, SETTLE, settle);
            entries++;
        }

        void removeAt(int gone) {
            for (int entry = gone; entry < entries - 1; entry++) {
                list.copyRow(entry + 1, entry);
            }
            entries--;
        }

        int slotsOfEntry(int entry) {
            return list.at(entry, SETTLE) + 1;
        }

        int slotsOfScan() {
            int slots = 0;
            for (int entry = 0; entry < entries; entry++) {
                slots += slotsOfEntry(entry);
            }
            return slots;
        }

        /** Ground and reference have the resistance 0: behind a slot the charge is their value. */
        int resistanceAt(int place) {
            return place < CHANNELS ? channels.at(place, RESISTANCE) : 0;
        }

        int valueAt(int place, int time) {
            if (place == GROUND) {
                return 0;
            }
            if (place == REFERENCE) {
                return setting(REFERENCE_LEVEL);
            }
            int level = channels.at(place, LEVEL);
            int second = channels.at(place, SECOND);
            switch (channels.at(place, KIND)) {
                case RISING: return Math.max(0, Math.min(TOP_LEVEL, level + Math.floorDiv(second * time, 16)));
                case JUMPING: return isFirstHalf(time, channels.at(place, PERIOD)) ? level : second;
                default: return level;
            }
        }

        private static boolean isFirstHalf(int time, int period) {
            return period > 0 && time % period < period / 2;
        }

        int readingOf(float charge) {
            return readingWith(charge, setting(GAIN), setting(OFFSET));
        }
    }

    /** A place for a snapshot, which may be empty. */
    private static final class Snapshot {
        final Setup setup = new Setup();
        boolean taken;

        void copyFrom(Snapshot other) {
            setup.copyFrom(other.setup);
            taken = other.taken;
        }
    }

    /** The latest readings, in rows that are used by turns. */
    private static final class Log {
        private final Table rows = new Table(MOST_READINGS, SAMPLE_COLUMNS);
        private int next;
        int kept;

        void copyFrom(Log other) {
            rows.copyFrom(other.rows);
            next = other.next;
            kept = other.kept;
        }

        void add(int place, Converter converter) {
            rows.put(next, SAMPLE_PLACE, place);
            rows.put(next, SAMPLE_TIME, converter.time - 1);
            rows.put(next, SAMPLE_READING, converter.reading);
            rows.put(next, SAMPLE_CARRY, converter.carry);
            rows.put(next, SAMPLE_ERROR, converter.error());
            next = (next + 1) % MOST_READINGS;
            kept = Math.min(kept + 1, MOST_READINGS);
        }

        int part(int back, int what) {
            return rows.at(Math.floorMod(next - 1 - back, MOST_READINGS), what);
        }
    }

    /** All that undo() brings back: everything but the text and the history. */
    private static final class State {
        final Setup setup = new Setup();
        final Log log = new Log();
        final Table latest = new Table(PLACES, 1);
        final Table accounts = new Table(ACCOUNTS, 1);
        private final Snapshot first = new Snapshot();
        private final Snapshot second = new Snapshot();
        float charge;

        State() {
            for (int place = 0; place < PLACES; place++) {
                latest.put(place, 0, NONE);
            }
        }

        void copyFrom(State other) {
            setup.copyFrom(other.setup);
            log.copyFrom(other.log);
            latest.copyFrom(other.latest);
            accounts.copyFrom(other.accounts);
            first.copyFrom(other.first);
            second.copyFrom(other.second);
            charge = other.charge;
        }

        int time() {
            return accounts.at(SLOTS_ON_CHANNELS, 0) + accounts.at(SLOTS_ON_GROUND, 0)
                    + accounts.at(SLOTS_ON_REFERENCE, 0) + accounts.at(SLOTS_PASSED, 0);
        }

        Snapshot snapshotAt(int place) {
            return place == 0 ? first : second;
        }

        int snapshotsTaken() {
            return (first.taken ? 1 : 0) + (second.taken ? 1 : 0);
        }

        void addTo(int account, int amount) {
            accounts.put(account, 0, accounts.at(account, 0) + amount);
        }

        /** Keeps what an entry had when the converter carried it out. */
        void book(int place, int slots, Converter converter) {
            log.add(place, converter);
            latest.put(place, 0, converter.reading);
            addTo(slotAccountOf(place), slots);
            addTo(READINGS, 1);
            addTo(CARRIES, Math.abs(converter.carry));
            charge = converter.charge;
        }

        private static int slotAccountOf(int place) {
            switch (place) {
                case GROUND: return SLOTS_ON_GROUND;
                case REFERENCE: return SLOTS_ON_REFERENCE;
                default: return SLOTS_ON_CHANNELS;
            }
        }

        int correctedReading(int channel) {
            int reading = latest.at(channel, 0);
            int ground = latest.at(GROUND, 0);
            int reference = latest.at(REFERENCE, 0);
            if (reading == NONE || ground == NONE || reference == NONE || reference <= ground) {
                return NONE;
            }
            return Math.floorDiv((reading - ground) * setup.setting(REFERENCE_LEVEL), reference - ground);
        }
    }

    /** The latest states, in places that are used by turns. */
    private static final class History {
        private final State[] states = new State[MOST_STATES];
        private int next;
        int kept;

        History() {
            for (int index = 0; index < states.length; index++) {
                states[index] = new State();
            }
        }

        void keep(State state) {
            State place = placeAt(next);
            if (place != null) {
                place.copyFrom(state);
                next = (next + 1) % MOST_STATES;
                kept = Math.min(kept + 1, MOST_STATES);
            }
        }

        void bringBack(State state) {
            int latest = Math.floorMod(next - 1, MOST_STATES);
            State place = placeAt(latest);
            if (place != null) {
                state.copyFrom(place);
                next = latest;
                kept--;
            }
        }

        private State placeAt(int index) {
            return index >= 0 && index < states.length ? states[index] : null;
        }
    }

    /** Carries out entries from a charge and a time, and tells what the last of them had. */
    private static final class Converter {
        float charge;
        int time;
        int reading;
        int carry;
        int target;

        void start(float charge, int time) {
            this.charge = charge;
            this.time = time;
        }

        void carryOutEntry(Setup setup, int entry) {
            carryOut(setup, setup.list.at(entry, PLACE), setup.list.at(entry, SETTLE));
        }

        void carryOut(Setup setup, int place, int settle) {
            int resistance = setup.resistanceAt(place);
            float fresh = 0.0f;
            for (int slot = 0; slot <= settle; slot++) {
                target = setup.valueAt(place, time);
                charge = chargeBehind(charge, (float) target, resistance);
                fresh = chargeBehind(fresh, (float) target, resistance);
                time++;
            }
            reading = setup.readingOf(charge);
            carry = reading - setup.readingOf(fresh);
        }

        int error() {
            return reading - target;
        }

        private static float chargeBehind(float charge, float value, int resistance) {
            return resistance <= 0 ? value : charge + (value - charge) / (float) (1 + resistance);
        }
    }

    /** Puts scan lists in order, with rows of its own to work in. */
    private static final class Sorter {
        private final Table keys = new Table(MOST_ENTRIES, 1);
        private final Table origins = new Table(MOST_ENTRIES, 1);
        private final Table copy = new Table(MOST_ENTRIES, ENTRY_COLUMNS);

        /** Returns how many entries have another number then. */
        int arrange(Setup setup, int rule, int time) {
            for (int entry = 0; entry < setup.entries; entry++) {
                sortIn(entry, keyOf(setup, entry, rule, time));
            }
            copy.copyFrom(setup.list);
            int moved = 0;
            for (int entry = 0; entry < setup.entries; entry++) {
                int origin = origins.at(entry, 0);
                setup.list.put(entry, PLACE, copy.at(origin, PLACE));
                setup.list.put(entry, SETTLE, copy.at(origin, SETTLE));
                moved += origin != entry ? 1 : 0;
            }
            return moved;
        }

        /** Entries come in by their numbers and pass greater keys alone, so equal ones stay in their order. */
        private void sortIn(int entry, int key) {
            int place = entry;
            while (place > 0 && keys.at(place - 1, 0) > key) {
                keys.copyRow(place - 1, place);
                origins.copyRow(place - 1, place);
                place--;
            }
            keys.put(place, 0, key);
            origins.put(place, 0, entry);
        }

        private static int keyOf(Setup setup, int entry, int rule, int time) {
            int place = setup.list.at(entry, PLACE);
            switch (rule) {
                case BY_PLACE: return place;
                case BY_RESISTANCE: return setup.resistanceAt(place);
                case BY_VALUE: return setup.valueAt(place, time);
                // The opposite order: the greater the number, the earlier.
                default: return -entry;
            }
        }
    }

    /** The text that is to be loaded. */
    private static final class Text {
        private final char[] characters = new char[MOST_CHARACTERS];
        int length;

        void add(int character) {
            if (length >= 0 && length < characters.length) {
                characters[length] = (char) character;
                length++;
            }
        }

        /** The character there, or END_OF_TEXT, which no text contains. */
        char characterAt(int position) {
            boolean inside = position >= 0 && position < length && position < characters.length;
            return inside ? characters[position] : END_OF_TEXT;
        }
    }

    /** Reads the items of its text into a draft, and stops at the first character that is not allowed. */
    private static final class TextReader {
        private static final int TOO_GREAT = 10000;

        final Text text = new Text();
        final Setup draft = new Setup();
        private int position;
        int failedAt;

        /** Returns the number of items. It counts, as the draft does, if reading has not failed. */
        int readItems(Setup present) {
            draft.copyFrom(present);
            position = 0;
            failedAt = -1;
            int items = 0;
            while (items < MOST_CHARACTERS && !hasFailed() && next() != END_OF_TEXT) {
                readItem();
                items++;
            }
            return items;
        }

        boolean hasFailed() {
            return failedAt >= 0;
        }

        private void readItem() {
            char sign = next();
            if (sign == 'g' || sign == 'f') {
                position++;
                readEntry(sign == 'g' ? GROUND : REFERENCE);
                return;
            }
            int channel = readNumber(0, CHANNELS - 1);
            switch (next()) {
                case '=':
                    position++;
                    readSource(channel);
                    break;
                case 'r':
                    position++;
                    readResistance(channel);
                    break;
                case ':':
                    readEntry(channel);
                    break;
                default:
                    failAt(position);
            }
        }

        private void readSource(int channel) {
            int kind = CONSTANT;
            int level = readNumber(0, TOP_LEVEL);
            int second = 0;
            int period = 0;
            char sign = next();
            if (sign == '+' || sign == '-') {
                position++;
                kind = RISING;
                int slope = readNumber(0, STEEPEST);
                second = sign == '-' ? -slope : slope;
            } else if (sign == ',') {
                position++;
                kind = JUMPING;
                second = readNumber(0, TOP_LEVEL);
                expect('/');
                period = readNumber(SHORTEST_PERIOD, LONGEST_PERIOD);
            }
            expect(';');
            if (!hasFailed()) {
                draft.putSource(channel, kind, level, second, period);
            }
        }

        private void readResistance(int channel) {
            int resistance = readNumber(0, TOP_RESISTANCE);
            expect(';');
            if (!hasFailed()) {
                draft.channels.put(channel, RESISTANCE, resistance);
            }
        }

        private void readEntry(int place) {
            // The ":" itself is not allowed where the list has no room for its entry.
            if (draft.entries >= MOST_ENTRIES) {
                next();
                failAt(position);
            }
            expect(':');
            int settle = readNumber(0, TOP_SETTLE);
            expect(';');
            if (!hasFailed()) {
                draft.insert(place, settle, draft.entries);
            }
        }

        private int readNumber(int least, int most) {
            char first = next();
            int start = position;
            int number = 0;
            while (position < MOST_CHARACTERS && isDigit(text.characterAt(position))) {
                number = Math.min(number * 10 + text.characterAt(position) - '0', TOO_GREAT);
                position++;
            }
            boolean hasZeroAhead = first == '0' && position - start > 1;
            if (position == start || hasZeroAhead || !isWithin(number, least, most)) {
                failAt(start);
            }
            return number;
        }

        private void expect(char sign) {
            if (next() == sign) {
                position++;
            } else {
                failAt(position);
            }
        }

        /** The next character that is no space; the position is on it then. */
        private char next() {
            while (position < MOST_CHARACTERS && text.characterAt(position) == ' ') {
                position++;
            }
            return text.characterAt(position);
        }

        /** The first error alone counts: what is read behind it is without meaning. */
        private void failAt(int where) {
            if (!hasFailed()) {
                failedAt = where;
            }
        }

        private static boolean isDigit(char character) {
            return character >= '0' && character <= '9';
        }
    }
}
