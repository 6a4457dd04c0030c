/** Promises 17 to 23: looking. */
final class LookingTests {
    private LookingTests() {
    }

    static void run() {
        count();
        channel();
        correctedReadings();
        correctionsOutliveTheLog();
        entry();
        valuesOfRisingSources();
        valuesOfJumpingSources();
        valueRefuses();
        sample();
        account();
        held();
        heldWithGainAndOffset();
        lookingIsNoAction();
    }

    /** Promise 17. */
    private static void count() {
        ScanRing ring = new ScanRing();
        ring.setSource(0, 1, 0, 1, 0);
        ring.setSource(1, 1, 0, 1, 0);
        ring.setSource(2, 2, 0, 1, 2);
        ring.addEntry(0, 3, 0);
        ring.addEntry(8, 7, 0);
        ring.addEntry(9, 0, 0);
        ring.set(0, 100);
        ring.set(1, 950);
        ring.set(2, -7);
        ring.take(1);
        ring.scan(2);
        Rings.type(ring, "abc");
        Check.dueInOrder("count", ring::count, 26, 3, 100, 950, -7, 6, 1, 13, 5, 3, 5, 2, 1);
        Check.due("count(13)", ring.count(13), Rings.INVALID);
        for (int wrong : Rings.OUTSIDE) {
            Check.due("count(" + wrong + ")", ring.count(wrong), Rings.INVALID);
        }
    }

    /** Promise 18. */
    private static void channel() {
        ScanRing ring = Rings.withPlaces(3, 8, 3);
        ring.setSource(3, 2, 11, 22, 6);
        ring.setResistance(3, 1);
        Check.dueInOrder("channel 3", what -> ring.channel(3, what), 2, 11, 22, 6, 1, Rings.NONE, Rings.NONE, 2);
        // Values 11, -, 11 at the times 0 and 2: charges 5.5 and, behind the ground, 5.5.
        ring.scan(1);
        Check.due("latest reading", ring.channel(3, 5), 6);
        Check.due("none of another", ring.channel(2, 5), Rings.NONE);
        Check.due("no entry of another", ring.channel(2, 7), 0);
        Check.due("channel(8, 0)", ring.channel(8, 0), Rings.INVALID);
        Check.due("channel(0, 8)", ring.channel(0, 8), Rings.INVALID);
        for (int wrong : Rings.OUTSIDE) {
            Check.due("channel " + wrong, ring.channel(wrong, 0), Rings.INVALID);
            Check.due("channel what " + wrong, ring.channel(0, wrong), Rings.INVALID);
        }
    }

    private static void correctedReadings() {
        ScanRing ring = new ScanRing();
        ring.setSource(0, 0, 1000, 0, 0);
        ring.set(2, 10);
        ring.addEntry(0, 0, 0);
        ring.scan(1);
        Check.due("channel alone", ring.channel(0, 6), Rings.NONE);
        ring.addEntry(8, 0, 1);
        ring.scan(1);
        Check.due("without a reference", ring.channel(0, 6), Rings.NONE);
        ScanRing other = Rings.withPlaces(0, 9);
        other.scan(1);
        Check.due("without a ground", other.channel(0, 6), Rings.NONE);
        ring.addEntry(9, 0, 2);
        ring.scan(1);
        // y 1010, a 10, b 2058.
        Check.due("all three", ring.channel(0, 6), 1000);
        Check.due("a channel without a reading", ring.channel(1, 6), Rings.NONE);
        ring.set(0, 999);
        // 1000 * 999 / 2048 is 487.79.
        Check.due("the reference level as it is now", ring.channel(0, 6), 487);
        ring.set(2, -20);
        ring.set(1, 900);
        Check.due("gain and offset do not count", ring.channel(0, 6), 487);

        ScanRing low = new ScanRing();
        low.addEntry(0, 0, 0);
        low.scan(1);
        low.set(2, 5);
        low.removeEntry(0);
        Rings.addPlaces(low, 8, 9);
        low.scan(1);
        low.set(0, 1000);
        // y 0, a 5, b 2053: -5 * 1000 / 2048 is -2.44.
        Check.due("rounded down below 0", low.channel(0, 6), -3);
        low.set(0, 0);
        Check.due("the reference level 0", low.channel(0, 6), 0);
        low.scan(1);
        Check.due("b equal to a", low.channel(0, 6), Rings.NONE);
        low.set(2, 0);
        low.removeEntry(0);
        low.scan(1);
        Check.due("b less than a", low.channel(0, 6), Rings.NONE);
        low.set(2, 6);
        low.scan(1);
        Check.due("b greater than a by 1, level 0", low.channel(0, 6), 0);
        low.set(0, 4095);
        Check.due("b greater than a by 1", low.channel(0, 6), -20475);
    }

    private static void correctionsOutliveTheLog() {
        ScanRing ring = new ScanRing();
        ring.setSource(4, 0, 512, 0, 0);
        Rings.addPlaces(ring, 4, 8, 9);
        ring.scan(1);
        ring.removeEntry(0);
        ring.removeEntry(0);
        ring.removeEntry(0);
        ring.addEntry(5, 0, 0);
        ring.scan(20);
        ring.scan(20);
        Check.due("the log has others", ring.sample(31, 0), 5);
        Check.due("latest reading", ring.channel(4, 5), 512);
        Check.due("corrected reading", ring.channel(4, 6), 512);
    }

    /** Promise 19. */
    private static void entry() {
        ScanRing ring = new ScanRing();
        ring.addEntry(9, 6, 0);
        Check.due("its place", ring.entry(0, 0), 9);
        Check.due("its settle slots", ring.entry(0, 1), 6);
        Check.due("entry(0, 2)", ring.entry(0, 2), Rings.INVALID);
        Check.due("entry(0, -1)", ring.entry(0, -1), Rings.INVALID);
        Check.due("entry(1, 0)", ring.entry(1, 0), Rings.NONE);
        Check.due("entry(16, 1)", ring.entry(16, 1), Rings.NONE);
        Check.due("entry(MAX, 1)", ring.entry(Integer.MAX_VALUE, 1), Rings.NONE);
        Check.due("entry(-1, 0)", ring.entry(-1, 0), Rings.INVALID);
        Check.due("entry(MIN, 0)", ring.entry(Integer.MIN_VALUE, 0), Rings.INVALID);
        Check.due("none there and a wrong what", ring.entry(1, 2), Rings.INVALID);
    }

    /** Promise 20. */
    private static void valuesOfRisingSources() {
        ScanRing ring = new ScanRing();
        ring.setSource(0, 1, 100, 3, 0);
        ring.setSource(1, 1, 100, -3, 0);
        ring.setSource(2, 1, 4090, 64, 0);
        ring.setSource(3, 1, 3, -64, 0);
        ring.setSource(4, 1, 0, 1, 0);
        Check.dueInOrder("rising", time -> ring.value(0, time), 100, 100, 100, 100, 100, 100, 101, 101, 101, 101, 101, 102);
        Check.dueInOrder("falling", time -> ring.value(1, time), 100, 99, 99, 99, 99, 99, 98, 98, 98, 98, 98, 97);
        Check.dueInOrder("to the top", time -> ring.value(2, time), 4090, 4094, 4095, 4095);
        Check.dueInOrder("to the bottom", time -> ring.value(3, time), 3, 0, 0, 0);
        Check.due("at the end", ring.value(4, 9999), 624);
        Check.due("top at the end", ring.value(2, 9999), 4095);
        Check.due("bottom at the end", ring.value(3, 9999), 0);
    }

    private static void valuesOfJumpingSources() {
        ScanRing ring = new ScanRing();
        ring.setSource(0, 2, 10, 20, 5);
        ring.setSource(1, 2, 4095, 0, 2);
        ring.setSource(2, 2, 1, 2, 200);
        ring.setSource(3, 2, 1, 2, 3);
        Check.dueInOrder("period 5", time -> ring.value(0, time), 10, 10, 20, 20, 20, 10, 10, 20, 20, 20, 10);
        Check.dueInOrder("period 2", time -> ring.value(1, time), 4095, 0, 4095, 0);
        Check.dueInOrder("period 3", time -> ring.value(3, time), 1, 2, 2, 1, 2, 2, 1);
        Check.due("period 200 at 99", ring.value(2, 99), 1);
        Check.due("period 200 at 100", ring.value(2, 100), 2);
        Check.due("period 200 at 199", ring.value(2, 199), 2);
        Check.due("period 200 at 200", ring.value(2, 200), 1);
        Check.due("period 2 at 9999", ring.value(1, 9999), 0);
        ring.pass(50);
        Check.due("the present time does not count", ring.value(2, 99), 1);
    }

    private static void valueRefuses() {
        ScanRing ring = new ScanRing();
        Check.due("value(7, 9999)", ring.value(7, 9999), 0);
        Check.due("value(8, 0)", ring.value(8, 0), Rings.INVALID);
        Check.due("value(9, 0)", ring.value(9, 0), Rings.INVALID);
        Check.due("value(0, 10000)", ring.value(0, 10000), Rings.INVALID);
        for (int wrong : Rings.OUTSIDE) {
            Check.due("value of " + wrong, ring.value(wrong, 0), Rings.INVALID);
            Check.due("value at " + wrong, ring.value(0, wrong), Rings.INVALID);
        }
    }

    /** Promise 21. */
    private static void sample() {
        ScanRing ring = new ScanRing();
        ring.setSource(6, 1, 0, 16, 0);
        Rings.addPlaces(ring, 6, 8);
        ring.scan(1);
        Check.due("sample(1, 0)", ring.sample(1, 0), 6);
        Check.due("sample(2, 0)", ring.sample(2, 0), Rings.NONE);
        ring.scan(20);
        Check.due("32 are kept", ring.count(5), 32);
        for (int back = 0; back < 32; back++) {
            Check.due("time " + back, ring.sample(back, 1), 41 - back);
            Check.due("place " + back, ring.sample(back, 0), back % 2 == 0 ? 8 : 6);
            Check.due("reading " + back, ring.sample(back, 2), back % 2 == 0 ? 0 : 41 - back);
        }
        Check.due("sample(32, 0)", ring.sample(32, 0), Rings.NONE);
        Check.due("sample(MAX, 4)", ring.sample(Integer.MAX_VALUE, 4), Rings.NONE);
        Check.due("sample(0, 5)", ring.sample(0, 5), Rings.INVALID);
        Check.due("sample(0, -1)", ring.sample(0, -1), Rings.INVALID);
        Check.due("sample(-1, 0)", ring.sample(-1, 0), Rings.INVALID);
        Check.due("sample(MIN, 0)", ring.sample(Integer.MIN_VALUE, 0), Rings.INVALID);
        Check.due("none there and a wrong what", ring.sample(32, 5), Rings.INVALID);
    }

    /** Promise 22. */
    private static void account() {
        ScanRing ring = new ScanRing();
        ring.setSource(0, 0, 800, 0, 0);
        ring.setResistance(1, 1);
        ring.addEntry(0, 1, 0);
        ring.addEntry(1, 0, 1);
        ring.addEntry(8, 2, 2);
        ring.addEntry(9, 4, 3);
        ring.pass(17);
        // The carry of channel 1 is 400 each time.
        ring.scan(2);
        Check.dueInOrder("account", ring::account, 6, 6, 10, 17, 8, 800, 39);
        Check.due("account(6) is the time", ring.account(6), ring.count(0));
        Check.due("account(7)", ring.account(7), Rings.INVALID);
        for (int wrong : Rings.OUTSIDE) {
            Check.due("account(" + wrong + ")", ring.account(wrong), Rings.INVALID);
        }
    }

    /** Promise 23. */
    private static void held() {
        ScanRing ring = new ScanRing();
        ring.setSource(0, 0, 4095, 0, 0);
        ring.setResistance(0, 2);
        ring.addEntry(0, 0, 0);
        ring.scan(2);
        // 1365, then 2275.
        Check.dueInOrder("held", ring::held, 2275, 2275, 582400);
        ring.setSource(0, 0, 0, 0, 0);
        ring.scan(1);
        // 1516.666..
        Check.dueInOrder("held", ring::held, 1516, 1517, 388266);
        Check.due("held(3)", ring.held(3), Rings.INVALID);
        for (int wrong : Rings.OUTSIDE) {
            Check.due("held(" + wrong + ")", ring.held(wrong), Rings.INVALID);
        }
    }

    private static void heldWithGainAndOffset() {
        ScanRing ring = new ScanRing();
        ring.setSource(0, 0, 4095, 0, 0);
        ring.addEntry(0, 0, 0);
        ring.scan(1);
        ring.set(2, 100);
        Check.due("at most 4095 by the offset", ring.held(1), 4095);
        ring.set(1, 900);
        // 3685.5 + 100 + .5 in floats.
        Check.due("gain 900, offset 100", ring.held(1), 3786);
        ring.set(2, 0);
        ring.set(1, 1100);
        Check.due("at most 4095 by the gain", ring.held(1), 4095);
        Check.due("the charge itself", ring.held(0), 4095);
        ring.setSource(0, 0, 99, 0, 0);
        ring.scan(1);
        Check.due("gain 1100 of 99", ring.held(1), 109);
        ring.set(1, 1000);
        ring.set(2, -100);
        Check.due("at least 0", ring.held(1), 0);
        ring.set(2, -98);
        Check.due("1 above", ring.held(1), 1);
        ring.setSource(0, 0, 0, 0, 0);
        ring.scan(1);
        Check.due("far below 0", ring.held(1), 0);
        Check.due("its error", ring.sample(0, 4), 0);
        ring.set(2, 100);
        ring.scan(1);
        Check.due("an offset of 100 is an error", ring.sample(0, 4), 100);
        Check.due("but no carry", ring.sample(0, 3), 0);
    }

    private static void lookingIsNoAction() {
        ScanRing ring = Rings.withPlaces(1);
        ring.count(0);
        ring.channel(1, 0);
        ring.entry(0, 0);
        ring.value(1, 1);
        ring.sample(0, 0);
        ring.account(0);
        ring.held(0);
        ring.would(0, 0);
        ring.why(0);
        ring.settleFor(0, 0);
        ring.bestRule();
        ring.groundsNeeded();
        Check.due("looking records nothing", ring.count(8), 1);
        Check.due("nor does it take time", ring.count(0), 0);
    }
}
