/** Rings and texts that several tests begin with. */
final class Rings {
    static final int INVALID = -10000001;
    static final int ILLEGAL = -10000002;
    static final int FULL = -10000003;
    static final int NONE = -10000009;
    static final int[] OUTSIDE = {Integer.MIN_VALUE, -1000000, -101, -1, Integer.MAX_VALUE, 1000000};

    private Rings() {
    }

    /** A ring whose list has these places, without settle slots. */
    static ScanRing withPlaces(int... places) {
        ScanRing ring = new ScanRing();
        addPlaces(ring, places);
        return ring;
    }

    static void addPlaces(ScanRing ring, int... places) {
        for (int place : places) {
            ring.addEntry(place, 0, ring.count(1));
        }
    }

    static String places(ScanRing ring) {
        StringBuilder places = new StringBuilder();
        for (int entry = 0; entry < ring.count(1); entry++) {
            places.append(ring.entry(entry, 0));
        }
        return places.toString();
    }

    /** Places and settle slots by turns. */
    static String list(ScanRing ring) {
        StringBuilder list = new StringBuilder();
        for (int entry = 0; entry < ring.count(1); entry++) {
            list.append(ring.entry(entry, 0)).append(ring.entry(entry, 1)).append(' ');
        }
        return list.toString().trim();
    }

    static void type(ScanRing ring, String text) {
        for (int index = 0; index < text.length(); index++) {
            ring.append(text.charAt(index));
        }
    }

    /** What load() answers for this text alone. */
    static int load(ScanRing ring, String text) {
        ring.clearText();
        type(ring, text);
        return ring.load();
    }

    /** Lets the time pass until it is the one given. */
    static void passTo(ScanRing ring, int time) {
        while (ring.count(0) < time) {
            ring.pass(Math.min(1000, time - ring.count(0)));
        }
    }
}
