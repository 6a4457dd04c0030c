/** Promises 1 to 8: a new object, sources and settings, the scan list. */
final class SetupTests {
    private SetupTests() {
    }

    static void run() {
        newObject();
        setSource();
        setSourceRefuses();
        setResistance();
        set();
        addEntry();
        addEntryRefuses();
        removeEntry();
        setSettle();
        orderByPlaces();
        orderByResistances();
        orderByValues();
        orderOpposite();
        orderRefuses();
    }

    /** Promise 1. */
    private static void newObject() {
        ScanRing ring = new ScanRing();
        Check.dueInOrder("new: count", ring::count, 0, 0, 2048, 1000, 0, 0, 0, 0, 0, 0, 8, 0, 0);
        Check.dueInOrder("new: account", ring::account, 0, 0, 0, 0, 0, 0, 0);
        Check.dueInOrder("new: held", ring::held, 0, 0, 0);
        for (int channel = 0; channel < 8; channel++) {
            int one = channel;
            Check.dueInOrder("new: channel " + channel, what -> ring.channel(one, what),
                    0, 0, 0, 0, 0, Rings.NONE, Rings.NONE, 0);
            Check.due("new: value of " + channel, ring.value(channel, 9999), 0);
        }
        Check.due("new: entry", ring.entry(0, 0), Rings.NONE);
        Check.due("new: sample", ring.sample(0, 0), Rings.NONE);
        Check.due("new: bestRule", ring.bestRule(), -1);
        Check.due("new: groundsNeeded", ring.groundsNeeded(), 0);
        Check.due("new: scan", ring.scan(1), Rings.ILLEGAL);
        Check.due("new: restore", ring.restore(0), Rings.ILLEGAL);
        Check.due("new: undo", ring.undo(), Rings.ILLEGAL);
        Check.due("new: clearText", ring.clearText(), 0);
    }

    /** Promise 2. */
    private static void setSource() {
        ScanRing ring = new ScanRing();
        Check.due("setSource rising", ring.setSource(7, 1, 4095, -64, 0), 0);
        Check.dueInOrder("rising channel", what -> ring.channel(7, what), 1, 4095, -64, 0, 0);
        Check.due("setSource jumping", ring.setSource(7, 2, 0, 4095, 200), 1);
        Check.dueInOrder("jumping channel", what -> ring.channel(7, what), 2, 0, 4095, 200, 0);
        Check.due("setSource constant", ring.setSource(7, 0, 17, 0, 0), 2);
        Check.dueInOrder("constant channel", what -> ring.channel(7, what), 0, 17, 0, 0, 0);
        Check.due("setSource steepest", ring.setSource(0, 1, 0, 64, 0), 0);
        Check.due("setSource shortest", ring.setSource(1, 2, 4095, 0, 2), 0);
        Check.dueInOrder("other channel", what -> ring.channel(6, what), 0, 0, 0, 0, 0);
        Check.due("setSource is an action", ring.count(8), 5);
        ring.setResistance(0, 9);
        ring.setSource(0, 0, 5, 0, 0);
        Check.due("setSource leaves the resistance", ring.channel(0, 4), 9);
    }

    private static void setSourceRefuses() {
        ScanRing ring = new ScanRing();
        int[][] wrong = {
            {-1, 0, 0, 0, 0}, {8, 0, 0, 0, 0}, {0, -1, 0, 0, 0}, {0, 3, 0, 0, 0},
            {0, 0, -1, 0, 0}, {0, 0, 4096, 0, 0}, {0, 0, 0, 1, 0}, {0, 0, 0, -1, 0}, {0, 0, 0, 0, 1}, {0, 0, 0, 0, 2},
            {0, 1, -1, 0, 0}, {0, 1, 4096, 0, 0}, {0, 1, 0, 65, 0}, {0, 1, 0, -65, 0}, {0, 1, 0, 0, 2}, {0, 1, 0, 0, -1},
            {0, 2, -1, 0, 2}, {0, 2, 4096, 0, 2}, {0, 2, 0, -1, 2}, {0, 2, 0, 4096, 2}, {0, 2, 0, 0, 1}, {0, 2, 0, 0, 201},
            {0, 2, 0, 0, 0}, {Integer.MIN_VALUE, 0, 0, 0, 0}, {0, Integer.MAX_VALUE, 0, 0, 0},
        };
        for (int[] a : wrong) {
            Check.due("setSource" + java.util.Arrays.toString(a), ring.setSource(a[0], a[1], a[2], a[3], a[4]), Rings.INVALID);
        }
        Check.due("a refused setSource records nothing", ring.count(8), 0);
        Check.due("a refused setSource changes nothing", ring.count(10), 8);
    }

    /** Promise 3. */
    private static void setResistance() {
        ScanRing ring = new ScanRing();
        Check.due("setResistance", ring.setResistance(0, 31), 0);
        Check.due("setResistance again", ring.setResistance(0, 0), 31);
        Check.due("setResistance of the last", ring.setResistance(7, 4), 0);
        Check.due("resistance of the last", ring.channel(7, 4), 4);
        Check.due("resistance of another", ring.channel(6, 4), 0);
        Check.due("setResistance is an action", ring.count(8), 3);
        Check.due("setResistance(8, 0)", ring.setResistance(8, 0), Rings.INVALID);
        Check.due("setResistance(0, 32)", ring.setResistance(0, 32), Rings.INVALID);
        for (int wrong : Rings.OUTSIDE) {
            Check.due("setResistance of " + wrong, ring.setResistance(wrong, 0), Rings.INVALID);
            Check.due("setResistance to " + wrong, ring.setResistance(0, wrong), Rings.INVALID);
        }
        Check.due("a refused setResistance records nothing", ring.count(8), 3);
    }

    /** Promise 4. */
    private static void set() {
        ScanRing ring = new ScanRing();
        int[][] edges = {{0, 2048, 0, 4095}, {1, 1000, 900, 1100}, {2, 0, -100, 100}};
        for (int[] edge : edges) {
            int what = edge[0];
            Check.due("set the least of " + what, ring.set(what, edge[2]), edge[1]);
            Check.due("the least of " + what, ring.count(2 + what), edge[2]);
            Check.due("set the most of " + what, ring.set(what, edge[3]), edge[2]);
            Check.due("the most of " + what, ring.count(2 + what), edge[3]);
            Check.due("set below " + what, ring.set(what, edge[2] - 1), Rings.INVALID);
            Check.due("set above " + what, ring.set(what, edge[3] + 1), Rings.INVALID);
            Check.due("after refused ones of " + what, ring.count(2 + what), edge[3]);
        }
        Check.due("set is an action", ring.count(8), 5);
        Check.due("set(3, 0)", ring.set(3, 0), Rings.INVALID);
        Check.due("set(-1, 0)", ring.set(-1, 0), Rings.INVALID);
        Check.due("set(MIN, 1000)", ring.set(Integer.MIN_VALUE, 1000), Rings.INVALID);
        Check.due("set(1, MIN)", ring.set(1, Integer.MIN_VALUE), Rings.INVALID);
    }

    /** Promise 5. */
    private static void addEntry() {
        ScanRing ring = new ScanRing();
        Check.due("addEntry first", ring.addEntry(9, 7, 0), 1);
        Check.due("addEntry behind", ring.addEntry(8, 0, 1), 2);
        Check.due("addEntry ahead", ring.addEntry(0, 1, 0), 3);
        Check.due("addEntry between", ring.addEntry(7, 2, 2), 4);
        Check.due("the list is " + Rings.list(ring), Rings.list(ring).equals("01 97 72 80") ? 1 : 0, 1);
        Check.due("addEntry is an action", ring.count(8), 4);
    }

    private static void addEntryRefuses() {
        ScanRing ring = Rings.withPlaces(1, 2);
        Check.due("place 10", ring.addEntry(10, 0, 0), Rings.INVALID);
        Check.due("settle 8", ring.addEntry(0, 8, 0), Rings.INVALID);
        Check.due("before 3 of 2", ring.addEntry(0, 0, 3), Rings.INVALID);
        for (int wrong : Rings.OUTSIDE) {
            Check.due("addEntry place " + wrong, ring.addEntry(wrong, 0, 0), Rings.INVALID);
            Check.due("addEntry settle " + wrong, ring.addEntry(0, wrong, 0), Rings.INVALID);
            Check.due("addEntry before " + wrong, ring.addEntry(0, 0, wrong), Rings.INVALID);
        }
        Check.due("refused entries record nothing", ring.count(8), 2);
        for (int more = 3; more <= 16; more++) {
            Check.due("entry " + more, ring.addEntry(3, 0, 0), more);
        }
        Check.due("the 17th", ring.addEntry(3, 0, 16), Rings.FULL);
        Check.due("the 17th with a wrong place", ring.addEntry(10, 0, 16), Rings.INVALID);
        Check.due("the 17th before 17", ring.addEntry(3, 0, 17), Rings.INVALID);
        Check.due("16 entries", ring.count(1), 16);
        Check.due("the last is still there", ring.entry(15, 0), 2);
    }

    /** Promise 6. */
    private static void removeEntry() {
        ScanRing ring = Rings.withPlaces(4, 5, 6, 7);
        ring.setSettle(3, 3);
        Check.due("remove 4 of 4", ring.removeEntry(4), Rings.INVALID);
        Check.due("remove 1", ring.removeEntry(1), 3);
        Check.holds("the others move: " + Rings.list(ring), Rings.list(ring).equals("40 60 73"));
        Check.due("remove the last", ring.removeEntry(2), 2);
        Check.due("the entry that is gone", ring.entry(2, 0), Rings.NONE);
        Check.due("remove the first", ring.removeEntry(0), 1);
        Check.holds("one is left", Rings.list(ring).equals("60"));
        for (int wrong : Rings.OUTSIDE) {
            Check.due("removeEntry(" + wrong + ")", ring.removeEntry(wrong), Rings.INVALID);
        }
        Check.due("remove the only one", ring.removeEntry(0), 0);
        Check.due("remove of none", ring.removeEntry(0), Rings.INVALID);
        Check.due("removeEntry is an action", ring.undo(), 4);
        Check.holds("undone", Rings.list(ring).equals("60"));
    }

    /** Promise 7. */
    private static void setSettle() {
        ScanRing ring = Rings.withPlaces(3, 3);
        Check.due("setSettle", ring.setSettle(1, 7), 0);
        Check.due("setSettle again", ring.setSettle(1, 2), 7);
        Check.holds("settle slots", Rings.list(ring).equals("30 32"));
        Check.due("setSettle is an action", ring.count(8), 4);
        Check.due("setSettle(2, 0)", ring.setSettle(2, 0), Rings.INVALID);
        Check.due("setSettle(0, 8)", ring.setSettle(0, 8), Rings.INVALID);
        for (int wrong : Rings.OUTSIDE) {
            Check.due("setSettle of " + wrong, ring.setSettle(wrong, 0), Rings.INVALID);
            Check.due("setSettle to " + wrong, ring.setSettle(0, wrong), Rings.INVALID);
        }
        Check.due("refused ones record nothing", ring.count(8), 4);
    }

    /** Promise 8. */
    private static void orderByPlaces() {
        ScanRing ring = new ScanRing();
        Check.due("order of an empty list", ring.order(0), 0);
        Check.due("order is an action, even of none", ring.count(8), 1);
        ring.addEntry(9, 1, 0);
        ring.addEntry(3, 2, 1);
        ring.addEntry(8, 3, 2);
        ring.addEntry(3, 4, 3);
        ring.addEntry(0, 5, 4);
        Check.due("order(0)", ring.order(0), 4);
        Check.holds("by places: " + Rings.list(ring), Rings.list(ring).equals("05 32 34 83 91"));
        Check.due("order(0) again", ring.order(0), 0);
        Check.due("an order that moves nothing is an action", ring.undo(), 4);
        Check.holds("the one before is undone then", ring.undo() == 3 && Rings.list(ring).equals("91 32 83 34 05"));
    }

    private static void orderByResistances() {
        ScanRing ring = Rings.withPlaces(1, 9, 2, 8, 3);
        ring.setResistance(1, 5);
        ring.setResistance(2, 4);
        Check.due("order(1)", ring.order(1), 5);
        Check.holds("by resistances: " + Rings.places(ring), Rings.places(ring).equals("98321"));
        ring.setResistance(3, 31);
        Check.due("order(1) after a change", ring.order(1), 3);
        Check.holds("then: " + Rings.places(ring), Rings.places(ring).equals("98213"));
    }

    private static void orderByValues() {
        ScanRing ring = new ScanRing();
        ring.set(0, 500);
        ring.setSource(1, 1, 0, 64, 0);
        ring.setSource(2, 2, 499, 501, 200);
        ring.setSource(3, 0, 500, 0, 0);
        Rings.addPlaces(ring, 9, 3, 2, 1, 8);
        // 0 and 0, 499, 500 and 500: channel 2 stays in the middle.
        Check.due("order(2) at 0", ring.order(2), 4);
        Check.holds("by values at 0: " + Rings.places(ring), Rings.places(ring).equals("18293"));
        ring.pass(100);
        // 400 0 501 500 500 now: none stays.
        Check.due("order(2) at 100", ring.order(2), 5);
        Check.holds("by values at 100: " + Rings.places(ring), Rings.places(ring).equals("81932"));
        ring.pass(30);
        Check.due("order(2) at 130", ring.order(2), 4);
        Check.holds("by values at 130: " + Rings.places(ring), Rings.places(ring).equals("89321"));
    }

    private static void orderOpposite() {
        ScanRing ring = Rings.withPlaces(5, 5, 1);
        ring.setSettle(0, 1);
        Check.due("order(3) of three", ring.order(3), 2);
        Check.holds("opposite: " + Rings.list(ring), Rings.list(ring).equals("10 50 51"));
        ring.addEntry(1, 0, 0);
        Check.due("order(3) of four, alike ones too", ring.order(3), 4);
        Check.holds("opposite again: " + Rings.list(ring), Rings.list(ring).equals("51 50 10 10"));
        Check.due("order(3) of one", Rings.withPlaces(6).order(3), 0);
    }

    private static void orderRefuses() {
        ScanRing ring = Rings.withPlaces(2, 1);
        Check.due("order(4)", ring.order(4), Rings.INVALID);
        for (int wrong : Rings.OUTSIDE) {
            Check.due("order(" + wrong + ")", ring.order(wrong), Rings.INVALID);
        }
        Check.holds("nothing moved", Rings.places(ring).equals("21"));
        Check.due("nothing recorded", ring.count(8), 2);
    }
}
