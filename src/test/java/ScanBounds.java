import java.util.function.Supplier;

/** Promises 9 to 13, sentence by sentence: scans, passing slots, snapshots and undo. */
final class ScanBounds {
    /** A scan takes a slot. */
    private static final Supplier<ScanRing> AT_9979 = () -> at(9979, 1, 0);
    private static final Supplier<ScanRing> AT_9980 = () -> at(9980, 1, 0);
    private static final Supplier<ScanRing> AT_9998 = () -> at(9998, 1, 0);
    private static final Supplier<ScanRing> AT_9999 = () -> at(9999, 1, 0);
    /** A scan takes 128 slots, the most that there are, and so 20 of them 2560. */
    private static final Supplier<ScanRing> AT_7439 = () -> at(7439, 16, 7);
    private static final Supplier<ScanRing> AT_7440 = () -> at(7440, 16, 7);
    private static final Supplier<ScanRing> EMPTY_LIST_AT_9999 = () -> at(9999, 0, 0);
    private static final Supplier<ScanRing> AT_8999 = () -> at(8999, 1, 0);
    private static final Supplier<ScanRing> AT_9000 = () -> at(9000, 1, 0);

    private ScanBounds() {
    }

    private static ScanRing at(int time, int entries, int settle) {
        ScanRing ring = new ScanRing();
        ring.setSource(0, 0, 7, 0, 0);
        for (int entry = 0; entry < entries; entry++) {
            ring.addEntry(0, settle, entry);
        }
        Rings.passTo(ring, time);
        return ring;
    }

    static void run() {
        scan();
        pass();
        take();
        restore();
        undo();
    }

    private static void scan() {
        String promise = "Promise 9";
        Sentences.holds(promise, "`times`: 1 to 20", () -> {
            Twins.dueWithin(1, 20, "scan", Rings.RICH, ScanRing::scan);
            for (int times = 1; times <= 20; times += 19) {
                ScanRing ring = Rings.withPlaces(0, 8);
                ring.scan(times);
                Check.due("readings", ring.account(4), 2 * times);
            }
        });
        Sentences.holds(promise, "This is one action.", () -> {
            ScanRing ring = Rings.withPlaces(0);
            ring.scan(20);
            Check.due("states", ring.count(8), 2);
            Check.due("undo", ring.undo(), 1);
            Check.due("no scan is left", ring.account(4), 0);
        });
        Sentences.holds(promise, "Returns the sum of all their carries without their signs", ScanBounds::sumOfCarries);
        Sentences.holds(promise, "INVALID_ARGUMENT if times is out of range; ILLEGAL_STATE", () -> {
            Twins.refused("scan(0) of an empty list", EMPTY_LIST_AT_9999, ring -> ring.scan(0), Rings.INVALID);
            Twins.refused("scan(21) of an empty list", EMPTY_LIST_AT_9999, ring -> ring.scan(21), Rings.INVALID);
            Twins.refused("scan(0) at the end", AT_9999, ring -> ring.scan(0), Rings.INVALID);
            Twins.refused("scan(21) at the end", AT_9999, ring -> ring.scan(21), Rings.INVALID);
        });
        Sentences.holds(promise, "ILLEGAL_STATE if the scan list is empty", () -> {
            Twins.refused("scan(1) of an empty list", Rings.NEW, ring -> ring.scan(1), Rings.ILLEGAL);
            Twins.refused("scan(20) of an empty list", Rings.NEW, ring -> ring.scan(20), Rings.ILLEGAL);
            Twins.refused("scan(1) of an empty list at the end", EMPTY_LIST_AT_9999, ring -> ring.scan(1), Rings.ILLEGAL);
            Check.due("scan of one entry", Rings.withPlaces(8).scan(1), 0);
            ScanRing ring = Rings.withPlaces(8);
            ring.removeEntry(0);
            Check.due("scan behind the removal of the only one", ring.scan(1), Rings.ILLEGAL);
        });
        Sentences.holds(promise, "CAPACITY_EXCEEDED if the time would be greater than 9999", ScanBounds::scanToTheEnd);
    }

    private static void sumOfCarries() {
        Check.due("no carry", Rings.withPlaces(8, 9, 0).scan(20), 0);
        ScanRing ring = Rings.withPlaces(9, 0);
        ring.setResistance(0, 1);
        // 1024 of the reference's 2048, each time.
        Check.due("one scan", ring.scan(1), 1024);
        Check.due("20 scans", ring.scan(20), 20480);
        Check.due("a carry of -1", Rings.withCarryBelowZero().scan(1), 1);
    }

    private static void scanToTheEnd() {
        Check.due("a slot to 9999", AT_9998.get().scan(1), 0);
        Twins.refused("a slot to 10000", AT_9999, ring -> ring.scan(1), Rings.FULL);
        Twins.refused("two scans to 10000, of which one had room", AT_9998, ring -> ring.scan(2), Rings.FULL);
        ScanRing last = AT_9979.get();
        Check.due("20 scans to 9999", last.scan(20), 0);
        Check.due("time", last.count(0), 9999);
        Twins.refused("20 scans to 10000", AT_9980, ring -> ring.scan(20), Rings.FULL);
        ScanRing longest = AT_7439.get();
        Check.due("2560 slots to 9999", longest.scan(20), 0);
        Check.due("time behind 2560 slots", longest.count(0), 9999);
        Twins.refused("2560 slots to 10000", AT_7440, ring -> ring.scan(20), Rings.FULL);
    }

    private static void pass() {
        String promise = "Promise 10";
        Sentences.holds(promise, "`slots`: 1 to 1000", () -> Twins.dueWithin(1, 1000, "pass", Rings.RICH, ScanRing::pass));
        Sentences.holds(promise, "Lets slots pass; the charge stays.", () -> {
            ScanRing ring = Rings.withPlaces(9);
            ring.scan(1);
            ring.pass(1);
            Check.due("charge behind one", ring.held(2), 2048 * 256);
            ring.pass(1000);
            Check.due("charge behind 1000", ring.held(2), 2048 * 256);
            Check.due("slots that passed otherwise", ring.account(3), 1001);
        });
        Sentences.holds(promise, "Returns the time then", () -> {
            ScanRing ring = new ScanRing();
            Check.due("pass(1)", ring.pass(1), 1);
            Check.due("pass(1000)", ring.pass(1000), 1001);
        });
        Sentences.holds(promise, "INVALID_ARGUMENT if slots is out of range; CAPACITY_EXCEEDED", () -> {
            Twins.refused("pass(0) at the end", AT_9999, ring -> ring.pass(0), Rings.INVALID);
            Twins.refused("pass(1001) at the end", AT_9999, ring -> ring.pass(1001), Rings.INVALID);
        });
        Sentences.holds(promise, "CAPACITY_EXCEEDED if the time would be greater than 9999", () -> {
            Check.due("one to 9999", AT_9998.get().pass(1), 9999);
            Twins.refused("one to 10000", AT_9999, ring -> ring.pass(1), Rings.FULL);
            Twins.refused("two to 10000", AT_9998, ring -> ring.pass(2), Rings.FULL);
            Check.due("1000 to 9999", AT_8999.get().pass(1000), 9999);
            Twins.refused("1000 to 10000", AT_9000, ring -> ring.pass(1000), Rings.FULL);
        });
    }

    private static void take() {
        String promise = "Promise 11";
        Sentences.holds(promise, "`place`: 0 or 1", () -> {
            Twins.dueWithin(0, 1, "take", Rings.RICH, ScanRing::take);
            for (int taken = 0; taken < 2; taken++) {
                ScanRing ring = Rings.withPlaces(4);
                ring.take(taken);
                Check.due("restore of the other", ring.restore(1 - taken), Rings.ILLEGAL);
                Check.due("restore of the same", ring.restore(taken), 1);
            }
        });
        Sentences.holds(promise, "in place of one that is there", () -> {
            for (int place = 0; place < 2; place++) {
                ScanRing ring = Rings.withPlaces(4, 5);
                ring.take(0);
                ring.take(1);
                ring.removeEntry(0);
                ring.take(place);
                Check.due("places with a snapshot", ring.count(6), 2);
                Check.due("the new one", ring.restore(place), 1);
                Check.due("the other one", ring.restore(1 - place), 2);
            }
        });
        Sentences.holds(promise, "Returns the number of entries in it", () -> {
            ScanRing empty = new ScanRing();
            Check.due("none", empty.take(0), 0);
            Check.due("though there is a snapshot", empty.count(6), 1);
            Check.due("one", Rings.withPlaces(9).take(1), 1);
            Check.due("16", Rings.FULL_TO_THE_BRIM.get().take(1), 16);
        });
        Sentences.holds(promise, "INVALID_ARGUMENT if place is out of range", () -> {
            Twins.refused("take(2)", Rings.FULL_TO_THE_BRIM, ring -> ring.take(2), Rings.INVALID);
            Twins.refused("take(-1)", Rings.NEW, ring -> ring.take(-1), Rings.INVALID);
        });
    }

    private static void restore() {
        String promise = "Promise 12";
        Sentences.holds(promise, "`place`: 0 or 1", () -> Twins.dueWithin(0, 1, "restore", Rings.RICH, ScanRing::restore));
        Sentences.holds(promise, "Restores a snapshot, which stays.", () -> {
            for (int place = 0; place < 2; place++) {
                ScanRing ring = Rings.withPlaces(4, 5);
                ring.take(place);
                ring.removeEntry(0);
                Check.due("once", ring.restore(place), 2);
                Check.due("places with a snapshot", ring.count(6), 1);
                ring.removeEntry(0);
                Check.due("twice", ring.restore(place), 2);
                Check.holds("the list: " + Rings.places(ring), Rings.places(ring).equals("45"));
            }
        });
        Sentences.holds(promise, "Returns the number of entries then", () -> {
            ScanRing empty = new ScanRing();
            empty.take(0);
            empty.addEntry(3, 3, 0);
            Check.due("none", empty.restore(0), 0);
            Check.due("no entry is left", empty.entry(0, 0), Rings.NONE);
            ScanRing full = Rings.FULL_TO_THE_BRIM.get();
            full.removeEntry(15);
            Check.due("16", full.restore(1), 16);
            Check.due("the last one", full.entry(15, 1), 7);
        });
        Sentences.holds(promise, "INVALID_ARGUMENT if place is out of range; ILLEGAL_STATE", () -> {
            Twins.refused("restore(2), all empty", Rings.NEW, ring -> ring.restore(2), Rings.INVALID);
            Twins.refused("restore(-1), all empty", Rings.NEW, ring -> ring.restore(-1), Rings.INVALID);
        });
        Sentences.holds(promise, "ILLEGAL_STATE if the place is empty", () -> {
            Twins.refused("restore(0)", Rings.NEW, ring -> ring.restore(0), Rings.ILLEGAL);
            Twins.refused("restore(1)", Rings.NEW, ring -> ring.restore(1), Rings.ILLEGAL);
            ScanRing ring = new ScanRing();
            ring.take(0);
            ring.undo();
            Check.due("restore of a snapshot that was undone", ring.restore(0), Rings.ILLEGAL);
        });
    }

    private static void undo() {
        String promise = "Promise 13";
        Sentences.holds(promise, "Returns the number of states that are left in the history", () -> {
            ScanRing ring = Rings.RICH.get();
            for (int left = 4; left >= 0; left--) {
                Check.due("undo", ring.undo(), left);
                Check.due("states", ring.count(8), left);
            }
        });
        Sentences.holds(promise, "ILLEGAL_STATE if it is empty", () -> {
            Twins.refused("undo of a new ring", Rings.NEW, ScanRing::undo, Rings.ILLEGAL);
            Supplier<ScanRing> undone = () -> {
                ScanRing ring = Rings.RICH.get();
                for (int state = 0; state < 5; state++) {
                    ring.undo();
                }
                return ring;
            };
            Twins.refused("the sixth undo", undone, ScanRing::undo, Rings.ILLEGAL);
        });
    }
}
