/** Promises 9 to 13: scans, passing slots, snapshots and undo. */
final class ScanTests {
    private ScanTests() {
    }

    static void run() {
        chargeWithResistance();
        carriesAndErrors();
        scanSeveralTimes();
        scanRefuses();
        pass();
        passRefuses();
        take();
        restore();
        undo();
        undoBringsBackEverything();
        fiveStates();
    }

    /** Promise 9: 0, then 250, 437.5 and 578.125 on a channel at 1000 with the resistance 3. */
    private static void chargeWithResistance() {
        ScanRing ring = new ScanRing();
        ring.setSource(2, 0, 1000, 0, 0);
        ring.setResistance(2, 3);
        ring.addEntry(2, 0, 0);
        int[] readings = {250, 438, 578};
        int[] charges = {64000, 112000, 148000};
        for (int index = 0; index < readings.length; index++) {
            ring.scan(1);
            Check.due("reading " + index, ring.sample(0, 2), readings[index]);
            Check.due("charge " + index, ring.held(2), charges[index]);
        }
        ring.setSettle(0, 1);
        ring.scan(1);
        Check.due("two slots more", ring.held(2), (int) ((578.125f + 105.46875f + 79.1015625f) * 256.0f));
    }

    private static void carriesAndErrors() {
        ScanRing ring = new ScanRing();
        ring.setSource(0, 0, 1000, 0, 0);
        ring.setSource(1, 0, 2000, 0, 0);
        ring.setResistance(1, 3);
        Rings.addPlaces(ring, 0, 1, 8, 1, 9, 1);
        // 1000; then 1250 of which 750 are carried; 0; 500; 2048; 2036 of which 1536 are carried.
        Check.due("scan", ring.scan(1), 750 + 1536);
        due(ring, 5, 0, 0, 1000, 0, 0);
        due(ring, 4, 1, 1, 1250, 750, -750);
        due(ring, 3, 8, 2, 0, 0, 0);
        due(ring, 2, 1, 3, 500, 0, -1500);
        due(ring, 1, 9, 4, 2048, 0, 0);
        due(ring, 0, 1, 5, 2036, 1536, 36);
        Check.dueInOrder("accounts", ring::account, 4, 1, 1, 0, 6, 2286, 6);
        Check.due("another scan answers its own carries alone", ring.scan(1), 2286);
        Check.due("the account has both", ring.account(5), 4572);
    }

    private static void due(ScanRing ring, int back, int... parts) {
        Check.dueInOrder("sample " + back, what -> ring.sample(back, what), parts);
    }

    private static void scanSeveralTimes() {
        ScanRing ring = new ScanRing();
        ring.setSource(0, 1, 0, 16, 0);
        ring.setResistance(0, 1);
        ring.addEntry(0, 1, 0);
        // Values 0 1, 2 3, 4 5: charges 0 .5, 1.25 2.125, 3.0625 4.03125.
        // Readings 1, 2, 4; without what was held .5, 2, 3.5 and so 1, 2, 4.
        Check.due("scan(3)", ring.scan(3), 0);
        due(ring, 0, 0, 5, 4, 0, -1);
        due(ring, 1, 0, 3, 2, 0, -1);
        due(ring, 2, 0, 1, 1, 0, 0);
        Check.due("one action", ring.undo(), 3);
        Check.due("all of them undone", ring.count(0), 0);
        Check.due("the log, too", ring.count(5), 0);
        ring.pass(1000);
        Check.due("scan(20)", ring.scan(20) > 0 ? 1 : 0, 1);
        Check.due("time behind it", ring.count(0), 1040);
        Check.due("readings in the log", ring.count(5), 20);
    }

    private static void scanRefuses() {
        ScanRing ring = new ScanRing();
        Check.due("scan(0) of an empty list", ring.scan(0), Rings.INVALID);
        Check.due("scan(21) of an empty list", ring.scan(21), Rings.INVALID);
        Check.due("scan(1) of an empty list", ring.scan(1), Rings.ILLEGAL);
        ring.addEntry(0, 7, 0);
        for (int wrong : Rings.OUTSIDE) {
            Check.due("scan(" + wrong + ")", ring.scan(wrong), Rings.INVALID);
        }
        Rings.passTo(ring, 9992);
        Check.due("scan beyond the end", ring.scan(1), Rings.FULL);
        Check.due("scan(21) beyond the end", ring.scan(21), Rings.INVALID);
        ring.undo();
        Rings.passTo(ring, 9983);
        Check.due("three scans to 10007", ring.scan(3), Rings.FULL);
        Check.due("two scans to 9999", ring.scan(2), 0);
        Check.due("time 9999", ring.count(0), 9999);
        ring.removeEntry(0);
        Check.due("an empty list at the end", ring.scan(1), Rings.ILLEGAL);
    }

    /** Promise 10. */
    private static void pass() {
        ScanRing ring = new ScanRing();
        ring.addEntry(9, 0, 0);
        ring.scan(1);
        Check.due("pass(1)", ring.pass(1), 2);
        Check.due("pass(1000)", ring.pass(1000), 1002);
        Check.due("the charge stays", ring.held(0), 2048);
        Check.due("the account of passed slots", ring.account(3), 1001);
        Check.due("no reading", ring.account(4), 1);
        Check.due("pass is an action", ring.count(8), 4);
        ring.undo();
        Check.due("undone", ring.count(0), 2);
    }

    private static void passRefuses() {
        ScanRing ring = new ScanRing();
        Check.due("pass(0)", ring.pass(0), Rings.INVALID);
        Check.due("pass(1001)", ring.pass(1001), Rings.INVALID);
        for (int wrong : Rings.OUTSIDE) {
            Check.due("pass(" + wrong + ")", ring.pass(wrong), Rings.INVALID);
        }
        Check.due("refused ones record nothing", ring.count(8), 0);
        Rings.passTo(ring, 9000);
        Check.due("to 10000", ring.pass(1000), Rings.FULL);
        Check.due("to 9999", ring.pass(999), 9999);
        Check.due("beyond", ring.pass(1), Rings.FULL);
        Check.due("a wrong one at the end", ring.pass(0), Rings.INVALID);
    }

    /** Promise 11. */
    private static void take() {
        ScanRing ring = Rings.withPlaces(1, 2);
        Check.due("take(1)", ring.take(1), 2);
        Check.due("one place has one", ring.count(6), 1);
        Check.due("the other is empty", ring.restore(0), Rings.ILLEGAL);
        Check.due("take(0)", ring.take(0), 2);
        Check.due("two places have one", ring.count(6), 2);
        ring.removeEntry(0);
        Check.due("take(0) in place of it", ring.take(0), 1);
        Check.due("still two", ring.count(6), 2);
        Check.due("take is an action", ring.undo(), 4);
        Check.due("the one before is back", ring.restore(0), 2);
        Check.due("take(2)", ring.take(2), Rings.INVALID);
        for (int wrong : Rings.OUTSIDE) {
            Check.due("take(" + wrong + ")", ring.take(wrong), Rings.INVALID);
        }
        Check.due("take of an empty list", new ScanRing().take(0), 0);
    }

    /** Promise 12. */
    private static void restore() {
        ScanRing ring = Rings.withPlaces(1, 9);
        ring.setSource(1, 2, 7, 9, 4);
        ring.setResistance(1, 6);
        ring.set(0, 1111);
        ring.set(1, 1010);
        ring.set(2, -5);
        ring.take(0);
        ring.setSource(1, 0, 0, 0, 0);
        ring.setResistance(1, 0);
        ring.set(0, 1);
        ring.set(1, 901);
        ring.set(2, 50);
        ring.addEntry(8, 3, 0);
        ring.scan(2);
        int charge = ring.held(2);
        Check.due("restore(0)", ring.restore(0), 2);
        Check.dueInOrder("restored channel", what -> ring.channel(1, what), 2, 7, 9, 4, 6, 50);
        Check.dueInOrder("restored settings", what -> ring.count(2 + what), 1111, 1010, -5);
        Check.holds("restored list", Rings.list(ring).equals("10 90"));
        Check.due("the time goes on", ring.count(0), 12);
        Check.due("the charge stays", ring.held(2), charge);
        Check.due("the log stays", ring.count(5), 6);
        Check.due("the accounts stay", ring.account(1), 8);
        ring.setSettle(0, 5);
        Check.due("the snapshot stays", ring.restore(0), 2);
        Check.due("and has not changed", ring.entry(0, 1), 0);
        Check.due("restore is an action", ring.undo(), 4);
        Check.due("undone", ring.entry(0, 1), 5);
        Check.due("restore(1)", ring.restore(1), Rings.ILLEGAL);
        Check.due("restore(2)", ring.restore(2), Rings.INVALID);
        for (int wrong : Rings.OUTSIDE) {
            Check.due("restore(" + wrong + ")", ring.restore(wrong), Rings.INVALID);
        }
        Check.due("refused ones record nothing", ring.count(8), 4);
    }

    /** Promise 13. */
    private static void undo() {
        ScanRing ring = new ScanRing();
        Check.due("undo of nothing", ring.undo(), Rings.ILLEGAL);
        ring.setResistance(0, 1);
        ring.setResistance(0, 2);
        Check.due("undo", ring.undo(), 1);
        Check.due("back to 1", ring.channel(0, 4), 1);
        ring.setResistance(0, 3);
        Check.due("undo of a new one", ring.undo(), 1);
        Check.due("back to 1 again", ring.channel(0, 4), 1);
        Check.due("undo of the first", ring.undo(), 0);
        Check.due("back to 0", ring.channel(0, 4), 0);
        Check.due("nothing left", ring.undo(), Rings.ILLEGAL);
    }

    private static void undoBringsBackEverything() {
        ScanRing ring = Rings.withPlaces(0, 8, 9);
        ring.setSource(0, 0, 3000, 0, 0);
        ring.scan(1);
        Rings.type(ring, "0=1");
        ring.setSource(0, 0, 100, 0, 0);
        ring.set(0, 500);
        ring.scan(20);
        ring.take(1);
        Check.due("undo take", ring.undo(), 4);
        Check.due("no snapshot", ring.count(6), 0);
        Check.due("undo scan", ring.undo(), 3);
        Check.due("charge", ring.held(0), 2048);
        Check.due("readings in the log", ring.count(5), 3);
        Check.due("latest in the log", ring.sample(0, 0), 9);
        Check.due("latest reading", ring.channel(0, 5), 3000);
        Check.dueInOrder("accounts", ring::account, 1, 1, 1, 0, 3, 0, 3);
        Check.due("undo set", ring.undo(), 2);
        Check.due("corrected with the reference level back", ring.channel(0, 6), 3000);
        Check.due("the text is not a part of it", ring.count(9), 3);
        ring.undo();
        ring.undo();
        Check.due("no reading any more", ring.channel(0, 5), Rings.NONE);
        Check.due("nor a corrected one", ring.channel(0, 6), Rings.NONE);
        Check.due("no charge", ring.held(2), 0);
    }

    private static void fiveStates() {
        ScanRing ring = new ScanRing();
        for (int resistance = 1; resistance <= 8; resistance++) {
            ring.setResistance(0, resistance);
            Check.due("states behind " + resistance, ring.count(8), Math.min(5, resistance));
        }
        for (int left = 4; left >= 0; left--) {
            Check.due("undo", ring.undo(), left);
            Check.due("resistance", ring.channel(0, 4), 3 + left);
        }
        Check.due("no sixth", ring.undo(), Rings.ILLEGAL);
        Check.due("the oldest that was kept", ring.channel(0, 4), 3);
    }
}
