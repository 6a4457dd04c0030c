import java.util.function.Supplier;

/** Promises 1 to 8, sentence by sentence: a new object, sources and settings, the scan list. */
final class SetupBounds {
    private static final Supplier<ScanRing> TWO_ENTRIES = () -> Rings.withPlaces(3, 9);
    private static final Supplier<ScanRing> ROOM_FOR_ONE = () -> Rings.withPlaces(0, 1, 2, 3, 4, 5, 6, 7, 8, 9, 0, 1, 2, 3, 4);

    private SetupBounds() {
    }

    static void run() {
        newObject();
        setSource();
        setResistance();
        set();
        addEntry();
        removeEntry();
        setSettle();
        order();
    }

    private static void newObject() {
        Sentences.holds("Promise 1", "a ring whose channels are constant at 0", () -> {
            ScanRing ring = new ScanRing();
            for (int channel = 0; channel < 8; channel++) {
                int one = channel;
                Check.dueInOrder("channel " + channel, what -> ring.channel(one, what), 0, 0, 0, 0);
                Check.due("value at 9999", ring.value(channel, 9999), 0);
            }
            Check.due("constant ones", ring.count(10), 8);
        });
        Sentences.holds("Promise 1", "with an empty scan list", () -> {
            Check.due("entries", new ScanRing().count(1), 0);
            Check.due("entry 0", new ScanRing().entry(0, 0), Rings.NONE);
            Check.due("slots of a scan", new ScanRing().count(7), 0);
        });
        Sentences.holds("Promise 1", "an empty text", () -> {
            Check.due("length", new ScanRing().count(9), 0);
            Check.due("length told by clearText", new ScanRing().clearText(), 0);
            Check.due("items", new ScanRing().load(), 0);
        });
    }

    private static void setSource() {
        String promise = "Promise 2";
        Sentences.holds(promise, "`channel`: 0 to 7", SetupBounds::channelOfASource);
        Sentences.holds(promise, "`kind`: 0 to 2", SetupBounds::kindOfASource);
        Sentences.holds(promise, "`level`: 0 to 4095", SetupBounds::levelOfASource);
        Sentences.holds(promise, "`second`: 0 for a constant source", () -> Twins.dueWithin(0, 0, "second of a constant one",
                Rings.RICH, (ring, second) -> ring.setSource(4, 0, 9, second, 0)));
        Sentences.holds(promise, "the slope for a rising one", () -> Twins.dueWithin(-64, 64, "slope",
                Rings.RICH, (ring, slope) -> ring.setSource(4, 1, 9, slope, 0)));
        Sentences.holds(promise, "the other level for a jumping one", () -> Twins.dueWithin(0, 4095, "other level",
                Rings.RICH, (ring, other) -> ring.setSource(4, 2, 9, other, 2)));
        Sentences.holds(promise, "`period`: 2 to 200 for a jumping source", () -> Twins.dueWithin(2, 200, "period",
                Rings.RICH, (ring, period) -> ring.setSource(4, 2, 9, 8, period)));
        Sentences.holds(promise, "0 for the others", SetupBounds::periodOfTheOthers);
        Sentences.holds(promise, "Returns the previous kind", SetupBounds::previousKind);
        Sentences.holds(promise, "INVALID_ARGUMENT if an argument is out of range", () -> Twins.refused("all of them wrong",
                Rings.FULL_TO_THE_BRIM, ring -> ring.setSource(8, 3, 4096, 4096, 201), Rings.INVALID));
    }

    private static void channelOfASource() {
        Twins.dueWithin(0, 7, "setSource of channel", Rings.RICH, (ring, channel) -> ring.setSource(channel, 0, 77, 0, 0));
        for (int set = 0; set < 8; set += 7) {
            ScanRing ring = new ScanRing();
            ring.setSource(set, 0, 77, 0, 0);
            for (int channel = 0; channel < 8; channel++) {
                Check.due("level of " + channel, ring.channel(channel, 1), channel == set ? 77 : 0);
            }
        }
    }

    private static void kindOfASource() {
        Twins.dueWithin(0, 2, "kind", Rings.RICH, (ring, kind) -> ring.setSource(0, kind, 5, 0, kind == 2 ? 4 : 0));
        int[] wrong = {-1, 3};
        for (int kind : wrong) {
            Twins.refused("kind " + kind + ", period 2", Rings.RICH, ring -> ring.setSource(0, kind, 5, 0, 2), Rings.INVALID);
        }
        ScanRing ring = new ScanRing();
        ring.setSource(1, 1, 5, 0, 0);
        ring.setSource(2, 2, 5, 0, 2);
        Check.dueInOrder("kind of channel", channel -> ring.channel(channel, 0), 0, 1, 2);
    }

    private static void levelOfASource() {
        for (int one = 0; one < 3; one++) {
            int kind = one;
            int period = kind == 2 ? 4 : 0;
            Twins.dueWithin(0, 4095, "level of kind " + kind, Rings.RICH,
                    (ring, level) -> ring.setSource(5, kind, level, 0, period));
            for (int level = 0; level <= 4095; level += 4095) {
                ScanRing ring = new ScanRing();
                ring.setSource(5, kind, level, 0, period);
                Check.due("level kept", ring.channel(5, 1), level);
                Check.due("level as the value at 0", ring.value(5, 0), level);
            }
        }
    }

    private static void periodOfTheOthers() {
        Twins.dueWithin(0, 0, "period of a constant one", Rings.RICH, (ring, period) -> ring.setSource(4, 0, 9, 0, period));
        Twins.dueWithin(0, 0, "period of a rising one", Rings.RICH, (ring, period) -> ring.setSource(4, 1, 9, 8, period));
        Twins.refused("2 for a constant one", Rings.RICH, ring -> ring.setSource(4, 0, 9, 0, 2), Rings.INVALID);
        Twins.refused("200 for a rising one", Rings.RICH, ring -> ring.setSource(4, 1, 9, 8, 200), Rings.INVALID);
        Twins.refused("0 for a jumping one", Rings.RICH, ring -> ring.setSource(4, 2, 9, 8, 0), Rings.INVALID);
    }

    private static void previousKind() {
        ScanRing ring = new ScanRing();
        int[] kinds = {0, 1, 1, 2, 2, 1, 0, 2, 0, 0};
        int previous = 0;
        for (int kind : kinds) {
            Check.due("previous kind", ring.setSource(6, kind, 1, 0, kind == 2 ? 2 : 0), previous);
            previous = kind;
        }
    }

    private static void setResistance() {
        String promise = "Promise 3";
        Sentences.holds(promise, "`channel`: 0 to 7", () -> {
            Twins.dueWithin(0, 7, "setResistance of channel", Rings.RICH, (ring, channel) -> ring.setResistance(channel, 6));
            ScanRing ring = new ScanRing();
            ring.setResistance(0, 1);
            ring.setResistance(7, 2);
            Check.dueInOrder("resistance of", channel -> ring.channel(channel, 4), 1, 0, 0, 0, 0, 0, 0, 2);
        });
        Sentences.holds(promise, "`resistance`: 0 to 31", () ->
                Twins.dueWithin(0, 31, "setResistance to", Rings.RICH, (ring, resistance) -> ring.setResistance(1, resistance)));
        Sentences.holds(promise, "Returns the previous one", () -> {
            ScanRing ring = new ScanRing();
            Check.due("0 at first", ring.setResistance(7, 31), 0);
            Check.due("31 then", ring.setResistance(7, 31), 31);
            Check.due("31 once more", ring.setResistance(7, 0), 31);
            Check.due("0 at last", ring.setResistance(7, 1), 0);
        });
        Sentences.holds(promise, "INVALID_ARGUMENT if an argument is out of range", () -> Twins.refused("both of them wrong",
                Rings.FULL_TO_THE_BRIM, ring -> ring.setResistance(8, 32), Rings.INVALID));
    }

    private static void set() {
        String promise = "Promise 4";
        Sentences.holds(promise, "`what`: 0 the reference level, 1 the gain, 2 the offset", () -> {
            Twins.dueWithin(0, 2, "set of what", Rings.RICH, (ring, what) -> ring.set(what, what == 1 ? 950 : 50));
            int[] wrong = {-1, 3};
            for (int what : wrong) {
                Twins.refused("set of " + what + " to 950", Rings.RICH, ring -> ring.set(what, 950), Rings.INVALID);
            }
            ScanRing ring = new ScanRing();
            ring.set(0, 901);
            ring.set(1, 902);
            ring.set(2, 3);
            Check.dueInOrder("setting", what -> ring.count(2 + what), 901, 902, 3);
        });
        Sentences.holds(promise, "`value`: in its range", () -> {
            Twins.dueWithin(0, 4095, "reference level", Rings.RICH, (ring, value) -> ring.set(0, value));
            Twins.dueWithin(900, 1100, "gain", Rings.RICH, (ring, value) -> ring.set(1, value));
            Twins.dueWithin(-100, 100, "offset", Rings.RICH, (ring, value) -> ring.set(2, value));
        });
        Sentences.holds(promise, "Returns the previous value", () -> {
            int[][] values = {{0, 2048, 0, 4095, 4095, 7}, {1, 1000, 900, 1100, 1100, 901}, {2, 0, -100, 100, 100, -1}};
            for (int[] row : values) {
                ScanRing ring = new ScanRing();
                for (int index = 2; index < row.length; index++) {
                    Check.due("set(" + row[0] + ", " + row[index] + ")", ring.set(row[0], row[index]), row[index - 1]);
                }
            }
        });
        Sentences.holds(promise, "INVALID_ARGUMENT if an argument is out of range", () -> Twins.refused("both of them wrong",
                Rings.FULL_TO_THE_BRIM, ring -> ring.set(3, 4096), Rings.INVALID));
    }

    private static void addEntry() {
        String promise = "Promise 5";
        Sentences.holds(promise, "`place`: 0 to 9", () -> {
            Twins.dueWithin(0, 9, "addEntry of place", Rings.RICH, (ring, place) -> ring.addEntry(place, 0, 5));
            ScanRing ring = Rings.withPlaces(0, 7, 8, 9);
            Check.dueInOrder("place of entry", entry -> ring.entry(entry, 0), 0, 7, 8, 9);
        });
        Sentences.holds(promise, "`settle`: 0 to 7", () -> {
            Twins.dueWithin(0, 7, "addEntry with settle", Rings.RICH, (ring, settle) -> ring.addEntry(2, settle, 5));
            ScanRing ring = new ScanRing();
            ring.addEntry(2, 0, 0);
            ring.addEntry(2, 7, 1);
            Check.dueInOrder("settle slots of entry", entry -> ring.entry(entry, 1), 0, 7);
        });
        Sentences.holds(promise, "`before`: an entry, ahead of which it comes, or the number of entries", SetupBounds::before);
        Sentences.holds(promise, "Returns the number of entries then", () -> {
            ScanRing ring = new ScanRing();
            for (int entries = 1; entries <= 16; entries++) {
                Check.due("addEntry", ring.addEntry(entries % 10, 0, entries / 2), entries);
            }
        });
        Sentences.holds(promise, "CAPACITY_EXCEEDED if there are 16 entries", SetupBounds::noSeventeenth);
        Sentences.holds(promise, "INVALID_ARGUMENT if an argument is out of range; CAPACITY_EXCEEDED", () -> {
            Supplier<ScanRing> full = Rings.FULL_TO_THE_BRIM;
            Twins.refused("place 10 of a full list", full, ring -> ring.addEntry(10, 0, 0), Rings.INVALID);
            Twins.refused("place -1 of a full list", full, ring -> ring.addEntry(-1, 0, 0), Rings.INVALID);
            Twins.refused("settle 8 of a full list", full, ring -> ring.addEntry(0, 8, 0), Rings.INVALID);
            Twins.refused("settle -1 of a full list", full, ring -> ring.addEntry(0, -1, 0), Rings.INVALID);
            Twins.refused("before 17 of a full list", full, ring -> ring.addEntry(0, 0, 17), Rings.INVALID);
            Twins.refused("before -1 of a full list", full, ring -> ring.addEntry(0, 0, -1), Rings.INVALID);
        });
    }

    private static void before() {
        Twins.dueWithin(0, 0, "before of an empty list", Rings.NEW, (ring, before) -> ring.addEntry(1, 0, before));
        Twins.dueWithin(0, 2, "before of two entries", TWO_ENTRIES, (ring, before) -> ring.addEntry(1, 0, before));
        Twins.dueWithin(0, 15, "before of 15 entries", ROOM_FOR_ONE, (ring, before) -> ring.addEntry(1, 0, before));
        String[] lists = {"1439", "3149", "3914"};
        for (int before = 0; before <= 2; before++) {
            ScanRing ring = TWO_ENTRIES.get();
            ring.addEntry(1, 0, before);
            ring.addEntry(4, 0, before + 1);
            Check.holds("before " + before + ": " + Rings.places(ring), Rings.places(ring).equals(lists[before]));
        }
        ScanRing first = ROOM_FOR_ONE.get();
        first.addEntry(9, 7, 0);
        Check.holds("first of 16", Rings.places(first).equals("9012345678901234"));
        ScanRing last = ROOM_FOR_ONE.get();
        last.addEntry(9, 7, 15);
        Check.holds("last of 16", Rings.places(last).equals("0123456789012349"));
    }

    private static void noSeventeenth() {
        Check.due("the 16th", ROOM_FOR_ONE.get().addEntry(9, 0, 15), 16);
        int[] places = {0, 15, 16};
        for (int before : places) {
            Twins.refused("the 17th before " + before, Rings.FULL_TO_THE_BRIM, ring -> ring.addEntry(9, 0, before), Rings.FULL);
        }
        ScanRing ring = Rings.FULL_TO_THE_BRIM.get();
        ring.removeEntry(0);
        Check.due("the 16th once more", ring.addEntry(9, 0, 15), 16);
        Check.due("the 17th once more", ring.addEntry(9, 0, 16), Rings.FULL);
    }

    private static void removeEntry() {
        String promise = "Promise 6";
        Sentences.holds(promise, "`entry`: an entry", () -> {
            Twins.dueWithin(0, 1, "removeEntry of two", TWO_ENTRIES, ScanRing::removeEntry);
            Twins.dueWithin(0, 15, "removeEntry of 16", Rings.FULL_TO_THE_BRIM, ScanRing::removeEntry);
        });
        Sentences.holds(promise, "the numbers of those behind it become smaller by 1", () -> {
            String[] left = {"123456789012345", "012345679012345", "012345678901234"};
            int[] gone = {0, 8, 15};
            for (int index = 0; index < gone.length; index++) {
                ScanRing ring = Rings.FULL_TO_THE_BRIM.get();
                ring.removeEntry(gone[index]);
                Check.holds("without " + gone[index], Rings.places(ring).equals(left[index]));
                Check.due("behind the last one", ring.entry(15, 0), Rings.NONE);
            }
            ScanRing ring = Rings.FULL_TO_THE_BRIM.get();
            ring.removeEntry(14);
            Check.due("the settle slots go with it", ring.entry(14, 1), 7);
        });
        Sentences.holds(promise, "Returns the number of entries then", () -> {
            ScanRing ring = Rings.FULL_TO_THE_BRIM.get();
            for (int entries = 15; entries >= 0; entries--) {
                Check.due("removeEntry", ring.removeEntry(entries / 2), entries);
            }
        });
        Sentences.holds(promise, "INVALID_ARGUMENT if there is no such entry", () -> {
            Twins.refused("removeEntry(0) of an empty list", Rings.NEW, ring -> ring.removeEntry(0), Rings.INVALID);
            Twins.refused("removeEntry(-1) of an empty list", Rings.NEW, ring -> ring.removeEntry(-1), Rings.INVALID);
            Twins.refused("removeEntry(16) of a full list", Rings.FULL_TO_THE_BRIM, ring -> ring.removeEntry(16), Rings.INVALID);
        });
    }

    private static void setSettle() {
        String promise = "Promise 7";
        Sentences.holds(promise, "`entry`: an entry", () -> {
            Twins.refused("setSettle(0, 0) of an empty list", Rings.NEW, ring -> ring.setSettle(0, 0), Rings.INVALID);
            Twins.dueWithin(0, 1, "setSettle of two", TWO_ENTRIES, (ring, entry) -> ring.setSettle(entry, 5));
            Twins.dueWithin(0, 15, "setSettle of 16", Rings.FULL_TO_THE_BRIM, (ring, entry) -> ring.setSettle(entry, 5));
            ScanRing ring = Rings.FULL_TO_THE_BRIM.get();
            ring.setSettle(0, 1);
            ring.setSettle(15, 2);
            Check.dueInOrder("settle slots of", entry -> ring.entry(entry, 1), 1, 0, 0, 0, 0, 0, 0, 0, 0, 0, 0, 0, 0, 0, 0, 2);
        });
        Sentences.holds(promise, "`settle`: 0 to 7", () ->
                Twins.dueWithin(0, 7, "setSettle to", Rings.RICH, (ring, settle) -> ring.setSettle(2, settle)));
        Sentences.holds(promise, "Returns the previous ones", () -> {
            ScanRing ring = TWO_ENTRIES.get();
            Check.due("0 at first", ring.setSettle(1, 7), 0);
            Check.due("7 then", ring.setSettle(1, 7), 7);
            Check.due("7 once more", ring.setSettle(1, 0), 7);
            Check.due("0 at last", ring.setSettle(1, 1), 0);
        });
        Sentences.holds(promise, "INVALID_ARGUMENT if an argument is out of range", () -> Twins.refused("both of them wrong",
                Rings.FULL_TO_THE_BRIM, ring -> ring.setSettle(16, 8), Rings.INVALID));
    }

    private static void order() {
        String promise = "Promise 8";
        Sentences.holds(promise, "`rule`: 0 to 3", () -> {
            Twins.dueWithin(0, 3, "order by", Rings.RICH, ScanRing::order);
            Twins.dueWithin(0, 3, "order of an empty list by", Rings.NEW, ScanRing::order);
        });
        Sentences.holds(promise, "Returns the number of entries whose number is another one then", () -> {
            for (int rule = 0; rule < 4; rule++) {
                Check.due("of none", new ScanRing().order(rule), 0);
                Check.due("of one", Rings.withPlaces(9).order(rule), 0);
            }
            Check.due("of two that stay", Rings.withPlaces(8, 9).order(0), 0);
            Check.due("of two that change", Rings.withPlaces(9, 8).order(0), 2);
            Check.due("of 15, of which the middle one stays", ROOM_FOR_ONE.get().order(3), 14);
            Check.due("of all 16", Rings.FULL_TO_THE_BRIM.get().order(3), 16);
            // The places 0 to 9 and 0 to 5: the first 0 alone stays.
            Check.due("of 16 by places", Rings.FULL_TO_THE_BRIM.get().order(0), 15);
        });
        Sentences.holds(promise, "(entries that are alike are told apart)", () -> {
            Check.due("two alike", Rings.withPlaces(4, 4).order(3), 2);
            Check.due("three alike", Rings.withPlaces(4, 4, 4).order(3), 2);
            Check.due("two alike that stay", Rings.withPlaces(4, 4).order(0), 0);
        });
        Sentences.holds(promise, "INVALID_ARGUMENT if rule is out of range", () -> {
            Twins.refused("order(4)", Rings.FULL_TO_THE_BRIM, ring -> ring.order(4), Rings.INVALID);
            Twins.refused("order(-1)", Rings.FULL_TO_THE_BRIM, ring -> ring.order(-1), Rings.INVALID);
        });
    }
}
