import java.util.function.Supplier;

/** Promises 24 to 28, sentence by sentence: questions, which change nothing. */
final class QuestionBounds {
    private QuestionBounds() {
    }

    static void run() {
        changeNothing();
        beyondTheEnd();
        would();
        why();
        settleFor();
        bestRule();
        groundsNeeded();
    }

    private static void changeNothing() {
        Sentences.holds("Errors", "questions, which change nothing", () -> {
            Twins.changesNothing("would", Rings.RICH, ring -> ring.would(4, 1));
            Twins.changesNothing("why", Rings.RICH, ring -> ring.why(4));
            Twins.changesNothing("settleFor", Rings.RICH, ring -> ring.settleFor(1, 0));
            Twins.changesNothing("bestRule", Rings.RICH, ScanRing::bestRule);
            Twins.changesNothing("groundsNeeded", Rings.RICH, ScanRing::groundsNeeded);
            Twins.changesNothing("would at the end", Rings.FULL_TO_THE_BRIM, ring -> ring.would(15, 0));
            Twins.changesNothing("why at the end", Rings.FULL_TO_THE_BRIM, ring -> ring.why(15));
            Twins.changesNothing("settleFor at the end", Rings.FULL_TO_THE_BRIM, ring -> ring.settleFor(15, 0));
            Twins.changesNothing("bestRule at the end", Rings.FULL_TO_THE_BRIM, ScanRing::bestRule);
            Twins.changesNothing("groundsNeeded at the end", Rings.FULL_TO_THE_BRIM, ScanRing::groundsNeeded);
        });
    }

    /** A slot is on channel 0 at 9999, the next ones at 10000 and later. */
    private static ScanRing atTheEnd(int... places) {
        ScanRing ring = Rings.withPlaces(places);
        Rings.passTo(ring, 9999);
        return ring;
    }

    private static void beyondTheEnd() {
        Sentences.holds("Errors", "slots beyond the time 9999 are taken like others", () -> {
            ScanRing ring = atTheEnd(0, 0, 1);
            // 9999 / 16 is 624, 10000 / 16 is 625.
            ring.setSource(0, 1, 0, 1, 0);
            Check.due("would at 9999", ring.would(0, 0), 624);
            Check.due("would at 10000", ring.would(1, 0), 625);
            Check.due("why at 10000", ring.why(1), 0);
            Check.due("settleFor at 10000", ring.settleFor(1, 0), 0);
            // At 10001 4095, at 10002 0, and so on: 733.4375, 710.5.., 816.3.., 790.8.., and more each time.
            ring.setSource(1, 2, 0, 4095, 2);
            ring.setResistance(1, 31);
            Check.due("would at 10001", ring.would(2, 2), -3362);
            Check.due("settleFor to 10001", ring.settleFor(2, 3362), 0);
            Check.due("settleFor to 10002", ring.settleFor(2, 3361), 1);
            Check.due("settleFor to 10002 by the very error", ring.settleFor(2, 711), 1);
            Check.due("settleFor to 10008, in vain", ring.settleFor(2, 710), Rings.NONE);
            Check.due("no scan there", ring.scan(1), Rings.FULL);
        });
        Sentences.holds("Errors", "slots beyond the time 9999 are taken like others", () -> {
            ScanRing ring = atTheEnd(0, 1, 2);
            ring.setSource(0, 0, 1000, 0, 0);
            ring.setResistance(1, 1);
            ring.setResistance(2, 1);
            // At 10001, behind a ground, channel 1 is at 4000 and leaves 2000 for channel 2; at 10000 it would be at 0.
            ring.setSource(1, 2, 0, 4000, 2);
            Check.due("groundsNeeded beyond 9999", ring.groundsNeeded(), 2);
            // At 4000 at the time 10000, which channel 2 takes over; at 0 at the time 9999.
            ScanRing ordered = atTheEnd(8, 1, 2);
            ordered.setResistance(2, 1);
            ordered.setSource(1, 2, 4000, 0, 2);
            Check.due("bestRule beyond 9999", ordered.bestRule(), 0);
            ordered.setSource(1, 2, 0, 4000, 2);
            Check.due("bestRule with 0 at 10000", ordered.bestRule(), -1);
        });
    }

    private static void would() {
        String promise = "Promise 24";
        Sentences.holds(promise, "`what`: 0 the reading, 1 the carry, 2 the error", () -> {
            Twins.dueWithin(0, 2, "would with what", Rings.RICH, (ring, what) -> ring.would(0, what));
            ScanRing ring = withCarry();
            Check.dueInOrder("would", what -> ring.would(1, what), 1786, 1536, 786);
        });
        Sentences.holds(promise, "`entry`: an entry", () -> {
            Twins.dueWithin(0, 4, "would of five", Rings.RICH, (ring, entry) -> ring.would(entry, 0));
            Twins.dueWithin(0, 15, "would of 16", Rings.FULL_TO_THE_BRIM, (ring, entry) -> ring.would(entry, 2));
        });
        Sentences.holds(promise, "INVALID_ARGUMENT if there is no such entry or what is out of range", () -> {
            Twins.refused("would of an empty list", Rings.NEW, ring -> ring.would(0, 0), Rings.INVALID);
            Twins.refused("would with what 3", Rings.RICH, ring -> ring.would(0, 3), Rings.INVALID);
            Twins.refused("would of entry 5 of five", Rings.RICH, ring -> ring.would(5, 0), Rings.INVALID);
            Twins.refused("both of them wrong", Rings.RICH, ring -> ring.would(5, 3), Rings.INVALID);
        });
        Sentences.holds(promise, "Returns what an entry would have in a scan that was made now.", () -> {
            int[][] wanted = new int[16][3];
            ScanRing ring = nineTenths();
            for (int entry = 0; entry < 16; entry++) {
                for (int what = 0; what < 3; what++) {
                    wanted[entry][what] = ring.would(entry, what);
                }
            }
            ring.scan(1);
            for (int entry = 0; entry < 16; entry++) {
                int back = 15 - entry;
                Check.dueInOrder("as it would be", what -> ring.sample(back, 2 + what), wanted[entry]);
            }
        });
    }

    /** The reference, then channel 0 at 1000, with the resistance 3: 1786, of which 1536 are carried. */
    private static ScanRing withCarry() {
        ScanRing ring = Rings.withPlaces(9, 0);
        ring.setSource(0, 0, 1000, 0, 0);
        ring.setResistance(0, 3);
        return ring;
    }

    /** 16 entries with all kinds of sources and places, gain 900, some of the charge held. */
    private static ScanRing nineTenths() {
        ScanRing ring = Rings.FULL_TO_THE_BRIM.get();
        ring.undo();
        ring.set(1, 900);
        ring.setSource(1, 2, 4095, 0, 3);
        ring.setResistance(0, 31);
        ring.setResistance(2, 7);
        ring.setSettle(2, 3);
        return ring;
    }

    private static void why() {
        String promise = "Promise 25";
        Sentences.holds(promise, "Returns 0 if its error would be 0", () -> {
            Check.due("no carry", withCarry().why(0), 0);
            ScanRing ring = withCarry();
            ring.setSource(0, 0, 2048, 0, 0);
            Check.due("a carry, without an error", ring.why(1), 0);
            Check.due("its carry", ring.would(1, 1), 1536);
            ring.setSource(0, 0, 2047, 0, 0);
            // 2047.75, and so 2048.
            Check.due("an error of 1", ring.would(1, 2), 1);
            Check.due("its cause", ring.why(1), 1);
        });
        Sentences.holds(promise, "otherwise 1 if its carry would be greater than 0", () -> {
            ScanRing ring = Rings.withPlaces(1, 0);
            ring.setSource(0, 0, 1000, 0, 0);
            ring.setResistance(0, 3);
            // 250, and three quarters of what was held.
            Check.due("no carry", ring.why(1), 4);
            ring.setSource(1, 0, 1, 0, 0);
            Check.due("a carry of 1", ring.would(1, 1), 1);
            Check.due("why with it", ring.why(1), 1);
            ring.set(2, 1);
            Check.due("why with an offset, too", ring.why(1), 1);
        });
        Sentences.holds(promise, "2 if it would be less than 0", () -> {
            ScanRing ring = Rings.withCarryBelowZero();
            Check.dueInOrder("would", what -> ring.would(0, what), 797, -1, -2103);
            Check.due("why with a carry below 0", ring.why(0), 2);
            ring.addEntry(8, 0, 0);
            Check.due("reading without it", ring.would(1, 0), 798);
            Check.due("why without it", ring.why(1), 4);
        });
        Sentences.holds(promise, "otherwise 3 if the reading with gain 1000 and offset 0 would have no error", () -> {
            ScanRing ring = new ScanRing();
            ring.setSource(0, 0, 1000, 0, 0);
            Rings.addPlaces(ring, 0, 8);
            ring.set(2, 1);
            Check.due("offset 1", ring.why(0), 3);
            Check.due("offset 1 on the ground", ring.why(1), 3);
            ring.set(2, 0);
            ring.set(1, 1001);
            Check.due("gain 1001", ring.why(0), 3);
            Check.due("gain 1001 on the ground", ring.why(1), 0);
        });
        Sentences.holds(promise, "4 if it has settled too little", () -> {
            ScanRing ring = Rings.withPlaces(0);
            ring.setSource(0, 0, 4, 0, 0);
            ring.setResistance(0, 3);
            // 1 of 4, then 1.75, 2.3125, 2.73.., 3.05.., 3.29.., 3.47.., 3.59..
            for (int settle = 0; settle < 7; settle++) {
                ring.setSettle(0, settle);
                Check.due("settle slots " + settle, ring.why(0), 4);
            }
            ring.setSettle(0, 7);
            Check.due("settle slots 7", ring.why(0), 0);
            ring.set(2, 1);
            Check.due("the offset then", ring.why(0), 3);
            ring.setSettle(0, 6);
            Check.due("an offset that makes up for it", ring.why(0), 0);
            ring.setSettle(0, 2);
            // 2.3125 and 1: 3 with the offset, 2 without.
            Check.due("an offset that does not", ring.why(0), 4);
        });
        Sentences.holds(promise, "`entry`: an entry", () -> {
            Twins.dueWithin(0, 4, "why of five", Rings.RICH, ScanRing::why);
            Twins.dueWithin(0, 15, "why of 16", Rings.FULL_TO_THE_BRIM, ScanRing::why);
        });
        Sentences.holds(promise, "INVALID_ARGUMENT if there is no such entry", () -> {
            Twins.refused("why of an empty list", Rings.NEW, ring -> ring.why(0), Rings.INVALID);
            Twins.refused("why of entry 16 of 16", Rings.FULL_TO_THE_BRIM, ring -> ring.why(16), Rings.INVALID);
        });
    }

    private static void settleFor() {
        String promise = "Promise 26";
        Sentences.holds(promise, "`entry`: an entry", () -> {
            Twins.dueWithin(0, 4, "settleFor of five", Rings.RICH, (ring, entry) -> ring.settleFor(entry, 4095));
            Twins.dueWithin(0, 15, "settleFor of 16", Rings.FULL_TO_THE_BRIM, (ring, entry) -> ring.settleFor(entry, 4095));
        });
        Sentences.holds(promise, "`limit`: 0 to 4095", () -> {
            Twins.dueWithin(0, 4095, "settleFor with limit", () -> Rings.withPlaces(8),
                    (ring, limit) -> ring.settleFor(0, limit));
            ScanRing most = Rings.withPlaces(0);
            most.setSource(0, 0, 4095, 0, 0);
            Check.due("limit 0", most.settleFor(0, 0), 0);
            // The reference's 4095 on a channel at 0, with the resistance 31: 3967 and less.
            ScanRing ring = Rings.withPlaces(9, 1);
            ring.set(0, 4095);
            ring.setResistance(1, 31);
            Check.due("limit 4095", ring.settleFor(1, 4095), 0);
            Check.due("the very error", ring.settleFor(1, 3967), 0);
            Check.due("one less", ring.settleFor(1, 3966), 1);
        });
        Sentences.holds(promise, "Returns the slots, 0 to 7", QuestionBounds::leastSlots);
        Sentences.holds(promise, "INVALID_ARGUMENT if an argument is out of range; NONE", () -> {
            Supplier<ScanRing> never = QuestionBounds::neverSettled;
            Check.due("limit 0", never.get().settleFor(0, 0), Rings.NONE);
            Twins.refused("limit -1", never, ring -> ring.settleFor(0, -1), Rings.INVALID);
            Twins.refused("entry 1 of one", never, ring -> ring.settleFor(1, 0), Rings.INVALID);
            Twins.refused("entry -1", never, ring -> ring.settleFor(-1, 0), Rings.INVALID);
            Twins.refused("entry 0 of an empty list", Rings.NEW, ring -> ring.settleFor(0, 0), Rings.INVALID);
            Twins.refused("both of them wrong", never, ring -> ring.settleFor(1, 4096), Rings.INVALID);
        });
        Sentences.holds(promise, "NONE if 7 are not enough either", () -> {
            // 4095 * (31 / 32) ^ 8 is 3176.5..
            int error = -withSettle(neverSettled(), 7).would(0, 2);
            Check.due("the error with 7", error, 3176);
            Check.due("that limit", neverSettled().settleFor(0, error), 7);
            Check.due("one less", neverSettled().settleFor(0, error - 1), Rings.NONE);
            Twins.changesNothing("a limit that is not met", Rings.RICH, ring -> ring.settleFor(2, 0));
        });
    }

    /** Channel 0 at 4095 with the resistance 31, from a charge of 0.0f. */
    private static ScanRing neverSettled() {
        ScanRing ring = Rings.withPlaces(0);
        ring.setSource(0, 0, 4095, 0, 0);
        ring.setResistance(0, 31);
        return ring;
    }

    private static ScanRing withSettle(ScanRing ring, int settle) {
        ring.setSettle(0, settle);
        return ring;
    }

    /** Each number of slots is the least one for the error that would be there with it. */
    private static void leastSlots() {
        for (int settle = 0; settle <= 7; settle++) {
            int error = -withSettle(neverSettled(), settle).would(0, 2);
            Check.due("slots for " + error, neverSettled().settleFor(0, error), settle);
            Check.due("slots for one less", neverSettled().settleFor(0, error - 1), settle == 7 ? Rings.NONE : settle + 1);
            Check.due("whatever it has now", withSettle(neverSettled(), 7).settleFor(0, error), settle);
        }
        // A jumping source: with 1 slot more the value is another one, and the error greater.
        ScanRing ring = Rings.withPlaces(8, 0);
        ring.setSource(0, 2, 0, 4095, 4);
        ring.setResistance(0, 1);
        Check.due("the least, though more have a greater error", ring.settleFor(1, 0), 0);
    }

    private static void bestRule() {
        String promise = "Promise 27";
        Sentences.holds(promise, "-1 if the present order is at least as good as all of them", () -> {
            Check.due("an empty list", new ScanRing().bestRule(), -1);
            Check.due("a list of one", Rings.withPlaces(0).bestRule(), -1);
            Check.due("no carry in any order", Rings.withPlaces(3, 2, 1, 0, 9, 8).bestRule(), -1);
            ScanRing ring = withCarry();
            // As it is: 1536. By places, resistances .. : the rule 0 has channel 0 first, without a carry.
            Check.due("a rule is better", ring.bestRule(), 0);
            ring.order(0);
            Check.due("that rule is in force", ring.bestRule(), -1);
            ScanRing alike = Rings.withPlaces(0, 0);
            alike.setSource(0, 0, 1000, 0, 0);
            alike.setResistance(0, 3);
            Check.due("each order has the same carry", alike.bestRule(), -1);
        });
        Sentences.holds(promise, "Returns the rule, of several the smallest one", QuestionBounds::smallestRule);
        Sentences.holds(promise, "the least sum of carries without their signs", () -> {
            // Channel 0 carries 1843 of the 2048 that are held, but 1 behind channel 2.
            ScanRing ring = Rings.withPlaces(9);
            ring.scan(1);
            ring.removeEntry(0);
            ring.setResistance(0, 9);
            ring.setSource(2, 0, 1, 0, 0);
            Rings.addPlaces(ring, 0, 2);
            Check.due("carry as it is", ring.would(0, 1), 1843);
            Check.due("less, though not 0", ring.bestRule(), 1);
            ring.order(3);
            Check.due("carry then", ring.would(1, 1), 1);
            Check.due("nothing is less", ring.bestRule(), -1);
            // A carry of -1, and none behind the ground: by resistances and in the opposite order.
            ScanRing below = Rings.withCarryBelowZero();
            below.addEntry(8, 0, 1);
            Check.due("0 is less than the 1 of a carry of -1", below.bestRule(), 1);
            below.order(3);
            Check.due("-1 is not less than 0", below.bestRule(), -1);
        });
    }

    private static void smallestRule() {
        // The opposite order alone: channel 1 is behind by the rules 0 to 2.
        ScanRing opposite = Rings.withPlaces(0, 1);
        opposite.setSource(0, 0, 1000, 0, 0);
        opposite.setSource(1, 0, 2000, 0, 0);
        opposite.setResistance(1, 3);
        Check.due("3 alone", opposite.bestRule(), 3);
        // Channel 1 has to be first. By places it is behind, by resistances too; by values first, and so by 3.
        opposite.setSource(1, 0, 999, 0, 0);
        Check.due("2 and 3", opposite.bestRule(), 2);
        // Channel 0 has to be first, and is so by places, values and the opposite order.
        ScanRing places = Rings.withPlaces(1, 0);
        places.setSource(1, 0, 1000, 0, 0);
        places.setResistance(0, 9);
        Check.due("0, 2 and 3", places.bestRule(), 0);
        // 2048 are held: channel 2, without resistance, has to be first, and is so by the rules 1, 2 and 3.
        ScanRing held = Rings.withPlaces(9);
        held.scan(1);
        held.removeEntry(0);
        held.setResistance(0, 9);
        held.setSource(0, 0, 5, 0, 0);
        held.setSource(2, 0, 1, 0, 0);
        Rings.addPlaces(held, 0, 2);
        Check.due("1, 2 and 3", held.bestRule(), 1);
    }

    private static void groundsNeeded() {
        String promise = "Promise 28";
        Sentences.holds(promise, "Returns the number of these grounds.", () -> {
            Check.due("of an empty list", new ScanRing().groundsNeeded(), 0);
            Check.due("of one entry", Rings.withPlaces(9).groundsNeeded(), 0);
            Check.due("of two", withCarry().groundsNeeded(), 1);
            ScanRing ring = Rings.withPlaces(9);
            ring.scan(1);
            ring.removeEntry(0);
            ring.setResistance(0, 1);
            ring.setSource(0, 0, 100, 0, 0);
            Rings.addPlaces(ring, 0, 0, 0, 0, 0, 0, 0, 0, 0, 0, 0, 0, 0, 0, 0, 0);
            Check.due("all of 16", ring.groundsNeeded(), 16);
        });
        Sentences.holds(promise, "whenever an entry would have a carry", () -> {
            ScanRing ring = Rings.withPlaces(1, 0);
            ring.setSource(0, 0, 1000, 0, 0);
            ring.setResistance(0, 3);
            Check.due("a carry of 0", ring.groundsNeeded(), 0);
            ring.setSource(1, 0, 1, 0, 0);
            Check.due("a carry of 1", ring.groundsNeeded(), 1);
            ring.addEntry(8, 0, 1);
            Check.due("a ground is there", ring.groundsNeeded(), 0);
            Check.due("a carry of -1", Rings.withCarryBelowZero().groundsNeeded(), 1);
        });
        Sentences.holds(promise, "a ground without settle slots is put ahead of it (which takes a slot)", () -> {
            ScanRing ring = Rings.withPlaces(9, 0, 1);
            ring.setResistance(0, 1);
            ring.setResistance(1, 1);
            // Channel 0 at the time 1, behind the ground at 2: there alone it leaves something for channel 1.
            ring.setSource(0, 2, 0, 4000, 4);
            Check.due("the time with the slot", ring.groundsNeeded(), 2);
            ring.setSource(0, 2, 4000, 0, 4);
            Check.due("not the time without", ring.groundsNeeded(), 1);
            // At 3, if the ground took two slots.
            ring.setSource(0, 2, 4000, 0, 2);
            Check.due("one slot alone", ring.groundsNeeded(), 2);
        });
    }
}
