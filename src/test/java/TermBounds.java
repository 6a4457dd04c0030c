import java.util.function.Supplier;

/** The terms "Sources" and "Charge", sentence by sentence. */
final class TermBounds {
    private TermBounds() {
    }

    static void run() {
        Sentences.holds("Terms", "\"/\" of whole numbers is the division rounded down (also for numbers below 0).",
                TermBounds::division);
        sources();
        charge();
        readings();
    }

    /** The value at 0, 1, 15, 16, 17, 31, 32 and 33 of a slope of 1, and of one of -1. */
    private static void division() {
        int[] times = {0, 1, 15, 16, 17, 31, 32, 33};
        int[] up = {100, 100, 100, 101, 101, 101, 102, 102};
        int[] down = {100, 99, 99, 99, 98, 98, 98, 97};
        for (int index = 0; index < times.length; index++) {
            Check.due("up at " + times[index], rising(100, 1).value(0, times[index]), up[index]);
            Check.due("down at " + times[index], rising(100, -1).value(0, times[index]), down[index]);
        }
        // A half of the period 3 is 1.
        Check.dueInOrder("period 3", time -> jumping(5, 9, 3).value(0, time), 5, 9, 9, 5);
        // A corrected reading with the reference level 1 is (y - a) / (b - a).
        Check.due("-1 / 2", corrected(0, 1, 3, 1), -1);
        Check.due("-2 / 2", corrected(0, 2, 4, 1), -1);
        Check.due("-3 / 2", corrected(0, 3, 5, 1), -2);
        Check.due("1 / 2", corrected(2, 1, 3, 1), 0);
        Check.due("2 / 2", corrected(3, 1, 3, 1), 1);
    }

    private static ScanRing rising(int level, int slope) {
        ScanRing ring = new ScanRing();
        ring.setSource(0, 1, level, slope, 0);
        return ring;
    }

    private static ScanRing jumping(int level, int other, int period) {
        ScanRing ring = new ScanRing();
        ring.setSource(0, 2, level, other, period);
        return ring;
    }

    /** The corrected reading of channel 0 with these readings of it, of the ground and of the reference. */
    static int corrected(int reading, int ground, int reference, int level) {
        ScanRing ring = new ScanRing();
        ring.setSource(0, 0, reading, 0, 0);
        readAlone(ring, 0);
        ring.set(2, ground);
        readAlone(ring, 8);
        ring.set(2, 0);
        ring.set(0, reference);
        readAlone(ring, 9);
        ring.set(0, level);
        return ring.channel(0, 6);
    }

    static void readAlone(ScanRing ring, int place) {
        ring.addEntry(place, 0, 0);
        ring.scan(1);
        ring.removeEntry(0);
    }

    private static void sources() {
        String part = "Sources";
        Sentences.holds(part, "There are eight channels, 0 to 7.", () -> {
            for (int channel = -1; channel <= 8; channel++) {
                boolean there = channel >= 0 && channel < 8;
                Check.due("kind of " + channel, new ScanRing().channel(channel, 0), there ? 0 : Rings.INVALID);
                Check.due("value of " + channel, new ScanRing().value(channel, 0), there ? 0 : Rings.INVALID);
                Check.due("setSource of " + channel, new ScanRing().setSource(channel, 0, 1, 0, 0),
                        there ? 0 : Rings.INVALID);
                Check.due("setResistance of " + channel, new ScanRing().setResistance(channel, 1),
                        there ? 0 : Rings.INVALID);
            }
        });
        Sentences.holds(part, "The time is told in slots, 0 at first, and at most 9999.", () -> {
            Check.due("at first", new ScanRing().count(0), 0);
            ScanRing ring = Rings.withPlaces(8);
            Rings.passTo(ring, 9998);
            ring.scan(1);
            Check.due("at most", ring.count(0), 9999);
            Check.due("no scan then", ring.scan(1), Rings.FULL);
            Check.due("no pass then", ring.pass(1), Rings.FULL);
            Check.due("still the same", ring.count(0), 9999);
        });
        Sentences.holds(part, "always from 0 to 4095 (a value that would be less becomes 0, one that would be greater 4095)",
                TermBounds::valuesAtTheirEnds);
        Sentences.holds(part, "At first all channels are constant with the level 0.", () -> {
            for (int channel = 0; channel < 8; channel++) {
                int one = channel;
                Check.dueInOrder("channel " + channel, what -> new ScanRing().channel(one, what), 0, 0, 0, 0);
            }
        });
        Sentences.holds(part, "0, constant: the value is its level;", () -> {
            ScanRing ring = new ScanRing();
            ring.setSource(0, 0, 4095, 0, 0);
            Check.due("at 0", ring.value(0, 0), 4095);
            Check.due("at 9999", ring.value(0, 9999), 4095);
            ring.setSource(0, 0, 0, 0, 0);
            Check.due("the least", ring.value(0, 9999), 0);
        });
        Sentences.holds(part, "1, rising: the value is its level + its slope * t / 16;", () -> {
            Check.dueInOrder("slope 64 at", time -> rising(0, 64).value(0, time), 0, 4, 8);
            Check.dueInOrder("slope -64 at", time -> rising(9, -64).value(0, time), 9, 5, 1, 0);
            Check.dueInOrder("slope 63 at", time -> rising(0, 63).value(0, time), 0, 3, 7, 11, 15, 19);
            Check.due("slope 0 at 9999", rising(7, 0).value(0, 9999), 7);
            Check.due("slope 1 at 9999", rising(0, 1).value(0, 9999), 624);
            Check.due("slope -1 at 9999", rising(4095, -1).value(0, 9999), 3470);
        });
        Sentences.holds(part, "2, jumping: the value is its level in the slots t with (t modulo its period) "
                + "less than half of its period (period / 2), otherwise its other level.", () -> {
            int[] periods = {2, 3, 4, 5, 199, 200};
            for (int period : periods) {
                ScanRing ring = jumping(4095, 0, period);
                Check.due("first slot of " + period, ring.value(0, 0), 4095);
                Check.due("last slot of the first half of " + period, ring.value(0, period / 2 - 1), 4095);
                Check.due("first slot of the other half of " + period, ring.value(0, period / 2), 0);
                Check.due("last slot of " + period, ring.value(0, period - 1), 0);
                Check.due("first slot of the next " + period, ring.value(0, period), 4095);
                Check.due("last slot of the next " + period, ring.value(0, 2 * period - 1), 0);
            }
            Check.due("period 2 at 9998", jumping(1, 2, 2).value(0, 9998), 1);
            Check.due("period 2 at 9999", jumping(1, 2, 2).value(0, 9999), 2);
        });
        Sentences.holds(part, "A level is 0 to 4095, a slope -64 to 64, a period 2 to 200.", () -> {
            int[][] arguments = {{0, 0, 0, 0}, {0, 4095, 0, 0}, {1, 0, -64, 0}, {1, 4095, 64, 0}, {2, 0, 4095, 2},
                {2, 4095, 0, 200}};
            int[][] beyond = {{0, -1, 0, 0}, {0, 4096, 0, 0}, {1, 0, -65, 0}, {1, 4095, 65, 0}, {2, 0, 4096, 2},
                {2, 4095, -1, 200}, {2, 0, 0, 1}, {2, 0, 0, 201}};
            for (int[] a : arguments) {
                ScanRing ring = new ScanRing();
                Check.due("setSource", ring.setSource(3, a[0], a[1], a[2], a[3]), 0);
                Check.dueInOrder("channel", what -> ring.channel(3, what), a);
            }
            for (int[] a : beyond) {
                Twins.refused("setSource", Rings.YOUNG, ring -> ring.setSource(3, a[0], a[1], a[2], a[3]), Rings.INVALID);
            }
        });
        Sentences.holds(part, "A channel has a resistance r, 0 to 31 (at first 0).", () -> {
            ScanRing ring = new ScanRing();
            Check.due("at first", ring.channel(7, 4), 0);
            Check.due("the most", ring.setResistance(7, 31), 0);
            Check.due("one more", ring.setResistance(7, 32), Rings.INVALID);
            Check.due("one less than the least", ring.setResistance(7, -1), Rings.INVALID);
            Check.due("as it was", ring.channel(7, 4), 31);
        });
    }

    private static void valuesAtTheirEnds() {
        ScanRing down = rising(2, -16);
        Check.dueInOrder("down to 0 and less", time -> down.value(0, time), 2, 1, 0, 0, 0);
        Check.due("far below", down.value(0, 9999), 0);
        ScanRing up = rising(4093, 16);
        Check.dueInOrder("up to 4095 and more", time -> up.value(0, time), 4093, 4094, 4095, 4095, 4095);
        Check.due("far above", up.value(0, 9999), 4095);
        // The charge takes the value that became 0 or 4095.
        Rings.passTo(up, 100);
        readAlone(up, 0);
        Check.dueInOrder("charge at the top", up::held, 4095, 4095, 4095 * 256);
        Rings.passTo(down, 100);
        readAlone(down, 0);
        Check.dueInOrder("charge at the bottom", down::held, 0, 0, 0);
        Check.due("error at the bottom", down.sample(0, 4), 0);
    }

    private static void charge() {
        String part = "Charge";
        Sentences.holds(part, "The converter holds a charge h, a float, 0.0f at first.", () -> {
            Check.dueInOrder("at first", new ScanRing()::held, 0, 0, 0);
            ScanRing ring = constant(1000, 9);
            Check.due("nothing to be carried at first", ring.would(0, 1), 0);
        });
        Sentences.holds(part, "h becomes x if r is 0, and h + (x - h) / (float) (1 + r) otherwise", () -> {
            int[] levels = {0, 1, 4095};
            for (int level : levels) {
                ScanRing ring = constant(level, 0);
                ring.scan(1);
                Check.due("charge without resistance", ring.held(2), level * 256);
            }
            // Halves, then 32nd parts, which floats have exactly.
            dueCharges(constant(1000, 1), 128000, 192000, 224000, 240000);
            dueCharges(constant(4095, 31), 32760, 64496);
            // A third each time: 333.3333.., 555.5555.., 703.7037..
            dueCharges(constant(1000, 2), 85333, 142222, 180148);
            ScanRing down = constant(4095, 0);
            down.scan(1);
            down.setSource(0, 0, 1, 0, 0);
            down.setResistance(0, 1);
            // 2048, 1024.5 and 512.75.
            dueCharges(down, 524288, 262272, 131264);
        });
        Sentences.holds(part, "In a slot on the ground h becomes 0.0f, "
                + "in one on the reference the reference level as a float.", () -> {
            ScanRing ring = new ScanRing();
            int[] levels = {4095, 0, 1};
            for (int level : levels) {
                ring.set(0, level);
                readAlone(ring, 9);
                Check.due("behind the reference", ring.held(2), level * 256);
            }
            readAlone(ring, 8);
            Check.due("behind the ground", ring.held(2), 0);
        });
        Sentences.holds(part, "The reference level is 0 to 4095, at first 2048.", () -> {
            ScanRing ring = new ScanRing();
            Check.due("at first", ring.set(0, 4095), 2048);
            Check.due("4096", ring.set(0, 4096), Rings.INVALID);
            Check.due("0", ring.set(0, 0), 4095);
            Check.due("-1", ring.set(0, -1), Rings.INVALID);
            Check.due("as it was", ring.count(2), 0);
        });
    }

    private static ScanRing constant(int level, int resistance) {
        ScanRing ring = Rings.withPlaces(0);
        ring.setSource(0, 0, level, 0, 0);
        ring.setResistance(0, resistance);
        return ring;
    }

    /** The charge behind each of several scans, 256 times as great. */
    private static void dueCharges(ScanRing ring, int... charges) {
        for (int charge : charges) {
            ring.scan(1);
            Check.due("charge", ring.held(2), charge);
        }
    }

    private static void readings() {
        String part = "Charge";
        Sentences.holds(part, "but at least 0 and at most 4095", () -> {
            Check.due("4095", reading(4095, 1000, 0), 4095);
            Check.due("4096", reading(4095, 1000, 1), 4095);
            Check.due("4095 by the offset", reading(4094, 1000, 1), 4095);
            Check.due("4094 by the offset", reading(4093, 1000, 1), 4094);
            Check.due("far above", reading(4095, 1100, 100), 4095);
            Check.due("1", reading(2, 1000, -1), 1);
            Check.due("0", reading(1, 1000, -1), 0);
            Check.due("-1", reading(0, 1000, -1), 0);
            Check.due("-2", reading(0, 1000, -2), 0);
            Check.due("far below", reading(0, 900, -100), 0);
        });
        Sentences.holds(part, "If the float ahead of the cast is less than 0.0f, the reading is 0.", () -> {
            // .5, -.5 and -1.5 ahead of the cast.
            Check.due("not less", reading(100, 1000, -100), 0);
            Check.due("less, by a half", reading(99, 1000, -100), 0);
            Check.due("less, by one and a half", reading(98, 1000, -100), 0);
            Check.due("greater", reading(101, 1000, -100), 1);
        });
        Sentences.holds(part, "+ 0.5f)", () -> {
            // A half of 1, 3 and 875, and a quarter of 1, 2 and 3.
            Check.due("0.5", constant(1, 1).would(0, 0), 1);
            Check.due("1.5", constant(3, 1).would(0, 0), 2);
            Check.due("437.5", constant(875, 1).would(0, 0), 438);
            Check.due("0.25", constant(1, 3).would(0, 0), 0);
            Check.due("0.5, of 2", constant(2, 3).would(0, 0), 1);
            Check.due("0.75", constant(3, 3).would(0, 0), 1);
        });
        Sentences.holds(part, "gain is 900 to 1100 (at first 1000), and offset -100 to 100 (at first 0)", () -> {
            Check.due("gain 900", reading(1000, 900, 0), 900);
            Check.due("gain 1100", reading(1000, 1100, 0), 1100);
            Check.due("offset -100", reading(1000, 1000, -100), 900);
            Check.due("offset 100", reading(1000, 1000, 100), 1100);
            Supplier<ScanRing> start = Rings.YOUNG;
            Twins.refused("gain 899", start, ring -> ring.set(1, 899), Rings.INVALID);
            Twins.refused("gain 1101", start, ring -> ring.set(1, 1101), Rings.INVALID);
            Twins.refused("offset -101", start, ring -> ring.set(2, -101), Rings.INVALID);
            Twins.refused("offset 101", start, ring -> ring.set(2, 101), Rings.INVALID);
            Check.due("gain at first", new ScanRing().count(3), 1000);
            Check.due("offset at first", new ScanRing().count(4), 0);
        });
    }

    /** The reading of this charge. */
    private static int reading(int charge, int gain, int offset) {
        ScanRing ring = constant(charge, 0);
        ring.set(1, gain);
        ring.set(2, offset);
        ring.scan(1);
        Check.due("the same in the log", ring.sample(0, 2), ring.held(1));
        return ring.held(1);
    }
}
