import java.util.function.Supplier;

/** Rings and texts that several tests begin with. */
final class Rings {
    static final int INVALID = -10000001;
    static final int ILLEGAL = -10000002;
    static final int FULL = -10000003;
    static final int NONE = -10000009;
    static final int TEXT_ERROR = -20000000;
    static final int[] OUTSIDE = {Integer.MIN_VALUE, -1000000, -101, -1, Integer.MAX_VALUE, 1000000};


    /** Named once, so that Twins knows them again. */
    static final Supplier<ScanRing> NEW = ScanRing::new;
    static final Supplier<ScanRing> RICH = Rings::rich;
    static final Supplier<ScanRing> YOUNG = Rings::young;
    static final Supplier<ScanRing> FULL_TO_THE_BRIM = Rings::full;

    private Rings() {
    }

    /** Five entries, nothing as it is in a new ring, the log and the history full, a text of two items. */
    private static ScanRing rich() {
        ScanRing ring = new ScanRing();
        ring.setSource(0, 0, 1000, 0, 0);
        ring.setSource(1, 1, 500, -20, 0);
        ring.setSource(2, 2, 3000, 100, 7);
        ring.setResistance(1, 3);
        ring.setResistance(2, 5);
        ring.set(0, 2000);
        ring.set(1, 990);
        ring.set(2, 5);
        addPlaces(ring, 0, 1, 8, 9, 2);
        ring.take(0);
        ring.setSettle(1, 2);
        ring.take(1);
        ring.scan(8);
        ring.pass(10);
        ring.removeEntry(4);
        ring.set(2, -3);
        ring.setResistance(3, 9);
        ring.addEntry(2, 1, 1);
        type(ring, "3=7;g:1;");
        return ring;
    }

    /** A rich ring whose history has room for two more states. */
    private static ScanRing young() {
        ScanRing ring = rich();
        ring.undo();
        ring.undo();
        return ring;
    }

    /** 16 entries at the time 9999, with a full log, a full history and a text of 140 characters. */
    private static ScanRing full() {
        ScanRing ring = new ScanRing();
        ring.setSource(3, 1, 4095, -1, 0);
        ring.setResistance(3, 2);
        addPlaces(ring, 0, 1, 2, 3, 4, 5, 6, 7, 8, 9, 0, 1, 2, 3, 4, 5);
        ring.take(0);
        ring.scan(3);
        ring.setSettle(15, 7);
        ring.take(1);
        passTo(ring, 9999);
        type(ring, "0r1;".repeat(35));
        return ring;
    }

    /**
     * A ring with channel 1 as its list, whose carry would be -1: of the reference's 1050 so little is held behind 42
     * slots at 0 that it changes the next charges by their last bit alone, and the roundings turn it to the other side.
     */
    static ScanRing withCarryBelowZero() {
        ScanRing ring = new ScanRing();
        ring.set(0, 1050);
        ring.addEntry(9, 0, 0);
        ring.scan(1);
        ring.removeEntry(0);
        ring.setResistance(0, 2);
        ring.addEntry(0, 6, 0);
        ring.scan(6);
        ring.removeEntry(0);
        ring.set(1, 900);
        ring.setSource(1, 0, 2900, 0, 0);
        ring.setResistance(1, 5);
        ring.addEntry(1, 1, 0);
        return ring;
    }

    /** A ring whose list has these places, without settle slots. */
    static ScanRing withPlaces(int... places) {
        ScanRing ring = new ScanRing();
        addPlaces(ring, places);
        return ring;
    }

    static void addPlaces(ScanRing ring, int... places) {
        for (int place : places) {
            ring.addEntry(place, 0, ring.count(1));
        }
    }

    static String places(ScanRing ring) {
        StringBuilder places = new StringBuilder();
        for (int entry = 0; entry < ring.count(1); entry++) {
            places.append(ring.entry(entry, 0));
        }
        return places.toString();
    }

    /** Places and settle slots by turns. */
    static String list(ScanRing ring) {
        StringBuilder list = new StringBuilder();
        for (int entry = 0; entry < ring.count(1); entry++) {
            list.append(ring.entry(entry, 0)).append(ring.entry(entry, 1)).append(' ');
        }
        return list.toString().trim();
    }

    static void type(ScanRing ring, String text) {
        for (int index = 0; index < text.length(); index++) {
            ring.append(text.charAt(index));
        }
    }

    /** What load() answers for this text alone. */
    static int load(ScanRing ring, String text) {
        ring.clearText();
        type(ring, text);
        return ring.load();
    }

    /** Lets the time pass until it is the one given, or until a call is refused. */
    static void passTo(ScanRing ring, int time) {
        int left = time - ring.count(0);
        while (left > 0 && ring.pass(Math.min(1000, left)) > 0) {
            left -= 1000;
        }
    }
}
