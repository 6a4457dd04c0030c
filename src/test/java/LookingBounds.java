import java.util.function.Supplier;

/** Promises 17 to 23, sentence by sentence: looking. */
final class LookingBounds {
    private LookingBounds() {
    }

    static void run() {
        count();
        channel();
        entry();
        value();
        sample();
        account();
        held();
    }

    private static void count() {
        String promise = "Promise 17";
        Sentences.holds(promise, "`what`: 0 the time", () -> {
            Twins.dueWithin(0, 12, "count", Rings.RICH, ScanRing::count);
            dueOfCount(0, Rings.NEW, 0, Rings.FULL_TO_THE_BRIM, 9999);
        });
        Sentences.holds(promise, "1 the number of entries", () -> dueOfCount(1, Rings.NEW, 0, Rings.FULL_TO_THE_BRIM, 16));
        Sentences.holds(promise, "2 to 4 the settings of set()", () -> {
            Supplier<ScanRing> least = () -> withSettings(0, 900, -100);
            Supplier<ScanRing> most = () -> withSettings(4095, 1100, 100);
            dueOfCount(2, least, 0, most, 4095);
            dueOfCount(3, least, 900, most, 1100);
            dueOfCount(4, least, -100, most, 100);
        });
        Sentences.holds(promise, "5 the readings in the log", () -> {
            dueOfCount(5, Rings.NEW, 0, () -> withReadings(1), 1);
            dueOfCount(5, () -> withReadings(31), 31, () -> withReadings(32), 32);
            dueOfCount(5, () -> withReadings(33), 32, () -> withReadings(65), 32);
        });
        Sentences.holds(promise, "6 the places with a snapshot", () -> {
            dueOfCount(6, Rings.NEW, 0, Rings.RICH, 2);
            for (int place = 0; place < 2; place++) {
                ScanRing ring = new ScanRing();
                ring.take(place);
                ring.take(place);
                Check.due("one place taken twice", ring.count(6), 1);
            }
        });
        Sentences.holds(promise, "7 the slots of a scan", () -> {
            dueOfCount(7, Rings.NEW, 0, () -> Rings.withPlaces(8), 1);
            ScanRing ring = Rings.FULL_TO_THE_BRIM.get();
            for (int entry = 0; entry < 16; entry++) {
                ring.setSettle(entry, 7);
            }
            Check.due("of 16 entries with 7 settle slots", ring.count(7), 128);
        });
        Sentences.holds(promise, "8 the states in the history", () -> dueOfCount(8, Rings.NEW, 0, Rings.RICH, 5));
        Sentences.holds(promise, "9 the length of the text", () -> dueOfCount(9, Rings.NEW, 0, Rings.FULL_TO_THE_BRIM, 140));
        Sentences.holds(promise, "10 to 12 the number of constant, rising and jumping sources", () -> {
            for (int one = 0; one < 3; one++) {
                int kind = one;
                dueOfCount(10 + kind, () -> withSources((kind + 1) % 3, 8), 0, () -> withSources(kind, 8), 8);
            }
            dueOfCount(10, () -> withSources(1, 7), 1, () -> withSources(2, 1), 7);
        });
        Sentences.holds(promise, "INVALID_ARGUMENT if what is out of range", () -> {
            Twins.refused("count(13)", Rings.FULL_TO_THE_BRIM, ring -> ring.count(13), Rings.INVALID);
            Twins.refused("count(-1)", Rings.NEW, ring -> ring.count(-1), Rings.INVALID);
        });
    }

    private static void dueOfCount(int what, Supplier<ScanRing> low, int least, Supplier<ScanRing> high, int most) {
        Check.due("count(" + what + ")", low.get().count(what), least);
        Check.due("count(" + what + ")", high.get().count(what), most);
    }

    private static ScanRing withSettings(int reference, int gain, int offset) {
        ScanRing ring = new ScanRing();
        ring.set(0, reference);
        ring.set(1, gain);
        ring.set(2, offset);
        return ring;
    }

    /** Readings of channel 0, whose value is the time: the reading tells which one it is. */
    private static ScanRing withReadings(int readings) {
        ScanRing ring = Rings.withPlaces(0);
        ring.setSource(0, 1, 0, 16, 0);
        for (int reading = 0; reading < readings; reading++) {
            ring.scan(1);
        }
        return ring;
    }

    private static ScanRing withSources(int kind, int channels) {
        ScanRing ring = new ScanRing();
        for (int channel = 0; channel < channels; channel++) {
            ring.setSource(channel, kind, 1, 0, kind == 2 ? 2 : 0);
        }
        return ring;
    }

    private static void channel() {
        String promise = "Promise 18";
        Sentences.holds(promise, "`channel`: 0 to 7", () -> {
            Twins.dueWithin(0, 7, "channel", Rings.RICH, (ring, channel) -> ring.channel(channel, 0));
            int[] wrong = {-1, 8, 9};
            for (int channel : wrong) {
                for (int what = 0; what < 8; what++) {
                    Check.due("channel(" + channel + ", " + what + ")", Rings.RICH.get().channel(channel, what), Rings.INVALID);
                }
            }
        });
        Sentences.holds(promise, "`what`: 0 the kind of its source, 1 the level, 2 the second argument of setSource()", () -> {
            Twins.dueWithin(0, 7, "channel with what", Rings.RICH, (ring, what) -> ring.channel(0, what));
            ScanRing ring = new ScanRing();
            ring.setSource(7, 1, 4095, -64, 0);
            Check.dueInOrder("channel(7, what)", what -> ring.channel(7, what), 1, 4095, -64);
            ring.setSource(7, 2, 0, 4095, 2);
            Check.dueInOrder("channel(7, what)", what -> ring.channel(7, what), 2, 0, 4095);
        });
        Sentences.holds(promise, "3 the period (0 for the others)", () -> {
            ScanRing ring = new ScanRing();
            ring.setSource(0, 2, 1, 2, 2);
            ring.setSource(1, 2, 1, 2, 200);
            ring.setSource(2, 1, 1, 2, 0);
            ring.setSource(3, 2, 1, 2, 50);
            ring.setSource(3, 0, 1, 0, 0);
            Check.dueInOrder("period of", channel -> ring.channel(channel, 3), 2, 200, 0, 0, 0);
            Check.dueInOrder("second of", channel -> ring.channel(channel, 2), 2, 2, 2, 0, 0);
        });
        Sentences.holds(promise, "4 the resistance, 5 the latest reading, 6 the corrected reading", () -> {
            ScanRing ring = Rings.withPlaces(7, 8, 9);
            ring.setSource(7, 0, 4095, 0, 0);
            ring.setResistance(7, 31);
            ring.set(2, 1);
            ring.scan(1);
            // 127.96.. and the offset: 129, of which the ground's 1 is corrected.
            Check.dueInOrder("channel(7, 4 + what)", what -> ring.channel(7, 4 + what), 31, 129, 128);
        });
        Sentences.holds(promise, "7 the number of entries with it as their place", () -> {
            Check.due("of an empty list", new ScanRing().channel(7, 7), 0);
            Check.due("none of them", Rings.withPlaces(0, 8, 9).channel(7, 7), 0);
            Check.due("one of them", Rings.withPlaces(0, 8, 9).channel(0, 7), 1);
            Check.due("all 16", Rings.withPlaces(7, 7, 7, 7, 7, 7, 7, 7, 7, 7, 7, 7, 7, 7, 7, 7).channel(7, 7), 16);
            ScanRing ring = Rings.withPlaces(7, 7);
            ring.removeEntry(1);
            Check.due("one that is left", ring.channel(7, 7), 1);
        });
        Sentences.holds(promise, "INVALID_ARGUMENT if an argument is out of range", () -> {
            Twins.refused("channel(0, 8)", Rings.NEW, ring -> ring.channel(0, 8), Rings.INVALID);
            Twins.refused("channel(8, 5) without readings", Rings.NEW, ring -> ring.channel(8, 5), Rings.INVALID);
            Twins.refused("channel(-1, 6) without readings", Rings.NEW, ring -> ring.channel(-1, 6), Rings.INVALID);
            Twins.refused("channel(8, 8)", Rings.FULL_TO_THE_BRIM, ring -> ring.channel(8, 8), Rings.INVALID);
        });
        Sentences.holds(promise, "NONE for 5 and 6 if there is none", () -> {
            for (int channel = 0; channel < 8; channel++) {
                Check.due("latest reading", new ScanRing().channel(channel, 5), Rings.NONE);
                Check.due("corrected reading", new ScanRing().channel(channel, 6), Rings.NONE);
            }
            ScanRing ring = Rings.withPlaces(3);
            ring.scan(1);
            Check.due("the first reading", ring.channel(3, 5), 0);
            Check.due("still no corrected one", ring.channel(3, 6), Rings.NONE);
            Check.due("none of another", ring.channel(4, 5), Rings.NONE);
            Check.due("of a ground alone", scanned(8).channel(0, 5), Rings.NONE);
            Check.due("corrected by a ground and a reference alone", scanned(8, 9).channel(0, 6), Rings.NONE);
            Check.due("corrected of all three", scanned(8, 9, 0).channel(0, 6), 0);
            Twins.changesNothing("channel(3, 5)", Rings.NEW, one -> one.channel(3, 5));
        });
    }

    private static ScanRing scanned(int... places) {
        ScanRing ring = Rings.withPlaces(places);
        ring.scan(1);
        return ring;
    }

    private static void entry() {
        String promise = "Promise 19";
        Sentences.holds(promise, "`entry`: 0 for the first one", () -> {
            ScanRing ring = new ScanRing();
            ring.addEntry(9, 7, 0);
            ring.addEntry(0, 1, 1);
            Check.due("place of the first", ring.entry(0, 0), 9);
            Check.due("settle slots of the first", ring.entry(0, 1), 7);
            Check.due("place of the last", ring.entry(1, 0), 0);
            Check.due("settle slots of the last", ring.entry(1, 1), 1);
            Check.due("place of the 16th", Rings.FULL_TO_THE_BRIM.get().entry(15, 0), 5);
        });
        Sentences.holds(promise, "`what`: 0 its place, 1 its settle slots", () ->
                Twins.dueWithin(0, 1, "entry(0, what)", Rings.RICH, (ring, what) -> ring.entry(0, what)));
        Sentences.holds(promise, "INVALID_ARGUMENT if entry is negative or what is out of range", () -> {
            Twins.refused("entry(-1, 0)", Rings.RICH, ring -> ring.entry(-1, 0), Rings.INVALID);
            Twins.refused("entry(-1, 0) of an empty list", Rings.NEW, ring -> ring.entry(-1, 0), Rings.INVALID);
            Twins.refused("entry(MIN, 1)", Rings.RICH, ring -> ring.entry(Integer.MIN_VALUE, 1), Rings.INVALID);
            Twins.refused("entry(5, 2) of five", Rings.RICH, ring -> ring.entry(5, 2), Rings.INVALID);
            Twins.refused("entry(MAX, -1)", Rings.RICH, ring -> ring.entry(Integer.MAX_VALUE, -1), Rings.INVALID);
        });
        Sentences.holds(promise, "NONE if there are not so many", () -> {
            Check.due("the first of none", new ScanRing().entry(0, 0), Rings.NONE);
            Check.due("the first of one", Rings.withPlaces(9).entry(0, 0), 9);
            Check.due("the second of one", Rings.withPlaces(9).entry(1, 0), Rings.NONE);
            Check.due("the last of five", Rings.RICH.get().entry(4, 0), 9);
            Check.due("the sixth of five", Rings.RICH.get().entry(5, 0), Rings.NONE);
            Check.due("the sixth of five, its settle slots", Rings.RICH.get().entry(5, 1), Rings.NONE);
            Check.due("the 17th", Rings.FULL_TO_THE_BRIM.get().entry(16, 1), Rings.NONE);
            Check.due("the greatest number", Rings.FULL_TO_THE_BRIM.get().entry(Integer.MAX_VALUE, 0), Rings.NONE);
            Twins.changesNothing("entry(16, 0)", Rings.FULL_TO_THE_BRIM, ring -> ring.entry(16, 0));
        });
    }

    private static void value() {
        String promise = "Promise 20";
        Sentences.holds(promise, "`channel`: 0 to 7", () ->
                Twins.dueWithin(0, 7, "value of channel", Rings.RICH, (ring, channel) -> ring.value(channel, 100)));
        Sentences.holds(promise, "`time`: 0 to 9999", () -> {
            Twins.dueWithin(0, 9999, "value at", Rings.RICH, (ring, time) -> ring.value(1, time));
            ScanRing ring = new ScanRing();
            ring.setSource(7, 1, 0, 1, 0);
            ring.pass(1000);
            Check.due("value at 0", ring.value(7, 0), 0);
            Check.due("value at 9983", ring.value(7, 9983), 623);
            Check.due("value at 9999", ring.value(7, 9999), 624);
        });
        Sentences.holds(promise, "INVALID_ARGUMENT if an argument is out of range", () -> Twins.refused("both of them wrong",
                Rings.FULL_TO_THE_BRIM, ring -> ring.value(8, 10000), Rings.INVALID));
    }

    private static void sample() {
        String promise = "Promise 21";
        Sentences.holds(promise, "`back`: 0 for the latest reading", () -> {
            Check.due("of one", withReadings(1).sample(0, 2), 0);
            Check.due("of 32", withReadings(32).sample(0, 2), 31);
            Check.due("of 33", withReadings(33).sample(0, 2), 32);
            Check.due("the first of 32", withReadings(32).sample(31, 2), 0);
            Check.due("the second of 33", withReadings(33).sample(31, 2), 1);
        });
        Sentences.holds(promise, "0 the place, 1 the time, 2 the reading, 3 the carry, 4 the error", () -> {
            Twins.dueWithin(0, 4, "sample(0, what)", Rings.RICH, (ring, what) -> ring.sample(0, what));
            ScanRing ring = new ScanRing();
            ring.setSource(7, 0, 1000, 0, 0);
            ring.setResistance(7, 3);
            Rings.addPlaces(ring, 9, 7);
            ring.scan(1);
            // 2048, of which 1536 are left behind a slot, and 250 of the 1000.
            Check.dueInOrder("sample(0, what)", what -> ring.sample(0, what), 7, 1, 1786, 1536, 786);
            Check.dueInOrder("sample(1, what)", what -> ring.sample(1, what), 9, 0, 2048, 0, 0);
        });
        Sentences.holds(promise, "INVALID_ARGUMENT if back is negative or what is out of range", () -> {
            Twins.refused("sample(-1, 0)", Rings.RICH, ring -> ring.sample(-1, 0), Rings.INVALID);
            Twins.refused("sample(-1, 0) of an empty log", Rings.NEW, ring -> ring.sample(-1, 0), Rings.INVALID);
            Twins.refused("sample(MIN, 4)", Rings.RICH, ring -> ring.sample(Integer.MIN_VALUE, 4), Rings.INVALID);
            Twins.refused("sample(0, 5) of an empty log", Rings.NEW, ring -> ring.sample(0, 5), Rings.INVALID);
            Twins.refused("sample(32, 5)", Rings.RICH, ring -> ring.sample(32, 5), Rings.INVALID);
            Twins.refused("sample(32, -1)", Rings.RICH, ring -> ring.sample(32, -1), Rings.INVALID);
        });
        Sentences.holds(promise, "NONE if there are not so many", () -> {
            Check.due("the first of one", withReadings(1).sample(0, 2), 0);
            Check.due("the 32nd of 32", withReadings(32).sample(31, 2), 0);
            Check.due("the 32nd of 33", withReadings(33).sample(31, 2), 1);
            for (int what = 0; what < 5; what++) {
                Check.due("the first of none", new ScanRing().sample(0, what), Rings.NONE);
                Check.due("the second of one", withReadings(1).sample(1, what), Rings.NONE);
                Check.due("the 32nd of 31", withReadings(31).sample(31, what), Rings.NONE);
                Check.due("the 33rd of 32", withReadings(32).sample(32, what), Rings.NONE);
                Check.due("the 33rd of 33", withReadings(33).sample(32, what), Rings.NONE);
                Check.due("the greatest number", withReadings(33).sample(Integer.MAX_VALUE, what), Rings.NONE);
            }
            Twins.changesNothing("sample(32, 0)", Rings.RICH, ring -> ring.sample(32, 0));
        });
    }

    private static void account() {
        String promise = "Promise 22";
        Sentences.holds(promise, "`what`: 0 to 5, or 6 for the accounts 0 to 3 together", () -> {
            Twins.dueWithin(0, 6, "account", Rings.RICH, ScanRing::account);
            for (int what = 0; what <= 6; what++) {
                Check.due("account(" + what + ") of a new ring", new ScanRing().account(what), 0);
            }
            ScanRing ring = Rings.FULL_TO_THE_BRIM.get();
            Check.due("6 at the end", ring.account(6), 9999);
            Check.due("0 to 3 at the end", ring.account(0) + ring.account(1) + ring.account(2) + ring.account(3), 9999);
        });
        Sentences.holds(promise, "INVALID_ARGUMENT if what is out of range", () -> {
            Twins.refused("account(7)", Rings.FULL_TO_THE_BRIM, ring -> ring.account(7), Rings.INVALID);
            Twins.refused("account(-1)", Rings.NEW, ring -> ring.account(-1), Rings.INVALID);
        });
    }

    private static void held() {
        String promise = "Promise 23";
        Sentences.holds(promise, "`what`: 0 (int) h, 1 the reading of h, 2 (int) (h * 256.0f)", () -> {
            Twins.dueWithin(0, 2, "held", Rings.RICH, ScanRing::held);
            Check.dueInOrder("held of nothing", new ScanRing()::held, 0, 0, 0);
            Check.dueInOrder("held of the most", holding(4095, 0)::held, 4095, 4095, 1048320);
            // A half, and then 31 of 32 parts.
            Check.dueInOrder("held of a half", holding(1, 1)::held, 0, 1, 128);
            Check.dueInOrder("held of 1 / 32", holding(1, 31)::held, 0, 0, 8);
            Check.dueInOrder("held of 31 / 32", holding(31, 31)::held, 0, 1, 248);
        });
        Sentences.holds(promise, "INVALID_ARGUMENT if what is out of range", () -> {
            Twins.refused("held(3)", Rings.FULL_TO_THE_BRIM, ring -> ring.held(3), Rings.INVALID);
            Twins.refused("held(-1)", Rings.NEW, ring -> ring.held(-1), Rings.INVALID);
        });
    }

    /** A ring behind a slot on a channel with this level and this resistance. */
    private static ScanRing holding(int level, int resistance) {
        ScanRing ring = Rings.withPlaces(0);
        ring.setSource(0, 0, level, 0, 0);
        ring.setResistance(0, resistance);
        ring.scan(1);
        return ring;
    }
}
