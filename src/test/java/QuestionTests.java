/** Promises 24 to 28: questions, which change nothing. */
final class QuestionTests {
    private QuestionTests() {
    }

    static void run() {
        would();
        wouldIsWhatAScanHas();
        wouldBeyondTheEnd();
        why();
        whyByGainAndOffset();
        settleFor();
        settleForRefuses();
        bestRule();
        bestRuleByPlaces();
        bestRuleByResistances();
        bestRuleByValues();
        groundsNeeded();
        groundsTakeSlots();
        questionsChangeNothing();
    }

    /** Promise 24. */
    private static void would() {
        ScanRing ring = ringWithCarry();
        Check.dueInOrder("would of the first", what -> ring.would(0, what), 1000, 0, 0);
        Check.dueInOrder("would of the second", what -> ring.would(1, what), 1250, 750, -750);
        Check.due("would(2, 0)", ring.would(2, 0), Rings.INVALID);
        Check.due("would(0, 3)", ring.would(0, 3), Rings.INVALID);
        for (int wrong : Rings.OUTSIDE) {
            Check.due("would of " + wrong, ring.would(wrong, 0), Rings.INVALID);
            Check.due("would what " + wrong, ring.would(0, wrong), Rings.INVALID);
        }
        Check.due("would of an empty list", new ScanRing().would(0, 0), Rings.INVALID);
    }

    /** Channel 0 at 1000 without resistance, then channel 1 at 2000 with the resistance 3. */
    private static ScanRing ringWithCarry() {
        ScanRing ring = new ScanRing();
        ring.setSource(0, 0, 1000, 0, 0);
        ring.setSource(1, 0, 2000, 0, 0);
        ring.setResistance(1, 3);
        Rings.addPlaces(ring, 0, 1);
        return ring;
    }

    private static void wouldIsWhatAScanHas() {
        ScanRing ring = new ScanRing();
        ring.setSource(0, 1, 50, 33, 0);
        ring.setSource(1, 2, 3000, 40, 7);
        ring.setResistance(0, 2);
        ring.setResistance(1, 5);
        ring.addEntry(0, 1, 0);
        ring.addEntry(1, 2, 1);
        ring.addEntry(9, 0, 2);
        ring.addEntry(0, 3, 3);
        for (int round = 0; round < 3; round++) {
            int[][] expected = new int[4][3];
            for (int entry = 0; entry < 4; entry++) {
                for (int what = 0; what < 3; what++) {
                    expected[entry][what] = ring.would(entry, what);
                }
            }
            ring.scan(1);
            for (int entry = 0; entry < 4; entry++) {
                int back = 3 - entry;
                Check.dueInOrder("sample as it would be", what -> ring.sample(back, 2 + what), expected[entry]);
            }
        }
    }

    private static void wouldBeyondTheEnd() {
        ScanRing ring = new ScanRing();
        ring.setSource(0, 2, 7, 9, 200);
        ring.addEntry(0, 0, 0);
        Rings.passTo(ring, 9999);
        Check.due("at 9999", ring.would(0, 0), 9);
        ring.setSettle(0, 1);
        Check.due("at 10000", ring.would(0, 0), 7);
        Check.due("no scan there", ring.scan(1), Rings.FULL);
        Check.due("settleFor there", ring.settleFor(0, 0), 0);
        Check.due("groundsNeeded there", ring.groundsNeeded(), 0);
        Check.due("bestRule there", ring.bestRule(), -1);
        ring.setSource(0, 1, 0, 1, 0);
        Check.due("a rising one at 10000", ring.would(0, 0), 625);
    }

    /** Promise 25. */
    private static void why() {
        ScanRing ring = ringWithCarry();
        Check.due("no error", ring.why(0), 0);
        Check.due("a carry", ring.why(1), 1);
        ring.addEntry(8, 0, 1);
        Check.due("too little settled", ring.why(2), 4);
        ring.setResistance(1, 0);
        Check.due("no error without resistance", ring.why(2), 0);
        Check.due("why(3)", ring.why(3), Rings.INVALID);
        for (int wrong : Rings.OUTSIDE) {
            Check.due("why(" + wrong + ")", ring.why(wrong), Rings.INVALID);
        }
        // A carry to the very value is no error.
        ring.removeEntry(1);
        ring.setResistance(1, 3);
        ring.setSource(1, 0, 1000, 0, 0);
        Check.due("a carry without an error", ring.why(1), 0);
        Check.due("its carry", ring.would(1, 1), 750);
        // 1 and 1000: 250.75 of which 250 would be there without the 1.
        ring.setSource(0, 0, 1, 0, 0);
        Check.due("the least carry", ring.would(1, 1), 1);
        Check.due("why with the least carry", ring.why(1), 1);
    }

    private static void whyByGainAndOffset() {
        ScanRing ring = ringWithCarry();
        ring.addEntry(8, 0, 1);
        ring.set(2, 1);
        Check.due("the offset", ring.why(0), 3);
        Check.due("the offset at the ground", ring.why(1), 3);
        Check.due("settling as well", ring.why(2), 4);
        ring.set(2, 0);
        ring.set(1, 1001);
        Check.due("the gain", ring.why(0), 3);
        Check.due("no gain of 0", ring.why(1), 0);
        ring.removeEntry(1);
        Check.due("a carry comes first", ring.why(1), 1);
        // Gain and offset that hide a lack: 500 * 1.1 is 550, 2000 is far.
        ring.set(1, 1100);
        ring.setSource(1, 0, 140, 0, 0);
        ring.addEntry(8, 0, 1);
        ring.set(2, 100);
        // 35 * 1.1 + 100 is 138.5, so 139: an error of -1, and 35 is not 140 either.
        Check.due("hidden, but for 1", ring.why(2), 4);
        ring.setSource(1, 0, 139, 0, 0);
        Check.due("34.75 becomes 138", ring.would(2, 0), 138);
        ring.setSource(1, 0, 138, 0, 0);
        Check.due("34.5 becomes 138", ring.would(2, 0), 138);
        Check.due("hidden wholly", ring.why(2), 0);
    }

    /** Promise 26: charges 250, 438, 578, 684, 763, 822, 867 and 900 of 1000. */
    private static void settleFor() {
        ScanRing ring = new ScanRing();
        ring.setSource(0, 0, 1000, 0, 0);
        ring.setResistance(0, 3);
        ring.addEntry(8, 0, 0);
        ring.addEntry(0, 5, 1);
        int[] limits = {4095, 750, 749, 562, 561, 422, 421, 316, 315, 237, 236, 178, 177, 133, 132, 100, 99, 0};
        int[] slots = {0, 0, 1, 1, 2, 2, 3, 3, 4, 4, 5, 5, 6, 6, 7, 7, Rings.NONE, Rings.NONE};
        for (int index = 0; index < limits.length; index++) {
            Check.due("settleFor(1, " + limits[index] + ")", ring.settleFor(1, limits[index]), slots[index]);
        }
        Check.due("the ground", ring.settleFor(0, 0), 0);
        ring.setSource(0, 0, 0, 0, 0);
        ring.addEntry(9, 0, 1);
        // From 2048 downwards: 1536, 1152, 864.
        Check.due("an error above 0", ring.settleFor(2, 1152), 1);
        Check.due("an error above 0, one less", ring.settleFor(2, 1151), 2);
        ring.addEntry(0, 1, 2);
        // The settle slots of the others count as they are: 1152 ahead of it, then 864, 648.
        Check.due("behind an entry with slots of its own", ring.settleFor(3, 863), 1);
    }

    private static void settleForRefuses() {
        ScanRing ring = Rings.withPlaces(0);
        Check.due("settleFor(1, 0)", ring.settleFor(1, 0), Rings.INVALID);
        Check.due("settleFor(0, 4096)", ring.settleFor(0, 4096), Rings.INVALID);
        for (int wrong : Rings.OUTSIDE) {
            Check.due("settleFor of " + wrong, ring.settleFor(wrong, 0), Rings.INVALID);
            Check.due("settleFor with " + wrong, ring.settleFor(0, wrong), Rings.INVALID);
        }
        Check.due("settleFor of an empty list", new ScanRing().settleFor(0, 0), Rings.INVALID);
    }

    /** Promise 27. */
    private static void bestRule() {
        ScanRing ring = ringWithCarry();
        // As it is, and by each of the rules 0 to 2, a carry of 750; the other way round none.
        Check.due("the opposite order alone", ring.bestRule(), 3);
        ring.order(3);
        Check.due("the present order", ring.bestRule(), -1);
        Check.due("an empty list", new ScanRing().bestRule(), -1);
        Check.due("all as good as each other", Rings.withPlaces(2, 1, 0).bestRule(), -1);
    }

    private static void bestRuleByPlaces() {
        ScanRing ring = new ScanRing();
        ring.setSource(1, 0, 1000, 0, 0);
        ring.setResistance(0, 9);
        Rings.addPlaces(ring, 1, 0);
        // As it is, and by resistances, a carry of 900; none by the rules 0, 2 and 3.
        Check.due("of several the smallest", ring.bestRule(), 0);
    }

    private static void bestRuleByResistances() {
        ScanRing ring = Rings.withPlaces(9);
        ring.scan(1);
        ring.removeEntry(0);
        ring.setResistance(0, 9);
        ring.setSource(2, 0, 1, 0, 0);
        Rings.addPlaces(ring, 0, 2);
        // As it is, by places and by values a carry of 1843 of the 2048 that are held; 1 by the rules 1 and 3.
        Check.due("the least of some that are not 0", ring.bestRule(), 1);
    }

    private static void bestRuleByValues() {
        ScanRing ring = new ScanRing();
        ring.setSource(0, 0, 3000, 0, 0);
        ring.setSource(1, 2, 1000, 4095, 20);
        ring.setResistance(1, 1);
        ring.setResistance(2, 1);
        Rings.addPlaces(ring, 0, 2, 1);
        // As it is, and by resistances: 0 2 1, 1500 + 750. By places: 0 1 2, 1500 + 1000.
        // By values: 2 1 0, none. The opposite: 1 2 0, 250.
        Check.due("by values", ring.bestRule(), 2);
        ring.order(2);
        Check.due("nothing better", ring.bestRule(), -1);
        ring.order(3);
        ring.pass(10);
        // By the values of this time: 2 0 1, 1500. By places and as it is: 0 1 2. The opposite: 2 1 0, none.
        Check.due("at another time", ring.bestRule(), 3);
    }

    /** Promise 28. */
    private static void groundsNeeded() {
        ScanRing ring = ringWithCarry();
        Check.due("one ground", ring.groundsNeeded(), 1);
        ring.addEntry(1, 0, 2);
        // Behind the ground 500 are held, which the next one would carry.
        Check.due("two grounds", ring.groundsNeeded(), 2);
        ring.addEntry(8, 0, 2);
        Check.due("one is there", ring.groundsNeeded(), 1);
        ring.addEntry(0, 0, 4);
        ring.addEntry(9, 0, 5);
        Check.due("none without resistance", ring.groundsNeeded(), 1);
        ScanRing held = new ScanRing();
        held.setResistance(0, 1);
        held.addEntry(9, 0, 0);
        held.scan(1);
        held.removeEntry(0);
        held.addEntry(0, 0, 0);
        Check.due("for what is held", held.groundsNeeded(), 1);
        ScanRing full = new ScanRing();
        full.setSource(0, 0, 4000, 0, 0);
        full.setResistance(0, 1);
        for (int entry = 0; entry < 16; entry++) {
            full.addEntry(0, 0, 0);
        }
        Check.due("more than the list has room for", full.groundsNeeded(), 15);
    }

    private static void groundsTakeSlots() {
        ScanRing ring = new ScanRing();
        ring.setSource(0, 0, 1000, 0, 0);
        ring.setSource(1, 2, 0, 4000, 4);
        ring.setResistance(1, 1);
        ring.setResistance(2, 1);
        Rings.addPlaces(ring, 0, 1, 2);
        // Without a ground channel 1 would be sampled at the time 1, at 0; behind one it is at 2, at 4000,
        // and so holds 2000 for channel 2.
        Check.due("the ground's slot counts", ring.groundsNeeded(), 2);
        ring.setSource(1, 2, 4000, 0, 4);
        Check.due("the other way round", ring.groundsNeeded(), 1);
        ring.setSource(1, 2, 4000, 0, 2);
        Check.due("no slot more than that", ring.groundsNeeded(), 2);
        ring.settleFor(2, 0);
        ring.would(2, 0);
        Check.due("whatever was asked ahead", ring.groundsNeeded(), 2);
        ring.bestRule();
        ring.removeEntry(0);
        Check.due("nothing is held now", ring.groundsNeeded(), 1);
    }

    private static void questionsChangeNothing() {
        ScanRing ring = ringWithCarry();
        ring.scan(3);
        Rings.type(ring, "0=");
        ring.would(1, 0);
        ring.why(1);
        ring.settleFor(1, 10);
        ring.bestRule();
        ring.groundsNeeded();
        Check.dueInOrder("count", ring::count, 6, 2, 2048, 1000, 0, 6, 0, 2, 5, 2, 8, 0, 0);
        Check.holds("the list", Rings.list(ring).equals("00 10"));
        Check.due("the charge", ring.held(0), 1250);
        Check.due("the log", ring.sample(0, 2), 1250);
        Check.due("the latest reading", ring.channel(1, 5), 1250);
        Check.due("the text is as it was", ring.load(), -20000002);
    }
}
