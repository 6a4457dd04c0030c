import java.util.Arrays;

/** The terms "Scan list", "Log, corrections", "Accounts" and "Snapshots", sentence by sentence. */
final class ListBounds {
    private ListBounds() {
    }

    static void run() {
        entries();
        carries();
        order();
        log();
        corrections();
        accounts();
        snapshots();
    }

    private static void entries() {
        String part = "Scan list";
        Sentences.holds(part, "The scan list has at most 16 entries, numbered from 0.", () -> {
            ScanRing ring = Rings.withPlaces(9, 8, 7, 6, 5, 4, 3, 2, 1, 0, 9, 8, 7, 6, 5, 4);
            Check.due("entries", ring.count(1), 16);
            Check.due("number 0", ring.entry(0, 0), 9);
            Check.due("number 15", ring.entry(15, 0), 4);
            Check.due("number 16", ring.entry(16, 0), Rings.NONE);
            Check.due("the 17th", ring.addEntry(1, 0, 16), Rings.FULL);
            Check.due("the 17th by a text", Rings.load(ring, "1:0;"), Rings.TEXT_ERROR - 1);
        });
        Sentences.holds(part, "An entry has a place, 0 to 7 for a channel, 8 for the ground, 9 for the reference, "
                + "and settle slots, 0 to 7.", () -> {
            for (int place = -1; place <= 10; place++) {
                boolean there = place >= 0 && place <= 9;
                Check.due("place " + place, new ScanRing().addEntry(place, 0, 0), there ? 1 : Rings.INVALID);
            }
            for (int settle = -1; settle <= 8; settle++) {
                boolean there = settle >= 0 && settle <= 7;
                Check.due("settle slots " + settle, new ScanRing().addEntry(0, settle, 0), there ? 1 : Rings.INVALID);
            }
            ScanRing ring = Rings.withPlaces(7, 8, 9);
            ring.setSource(7, 0, 100, 0, 0);
            ring.scan(1);
            Check.dueInOrder("reading of", back -> ring.sample(back, 2), 2048, 0, 100);
            Check.dueInOrder("slots on", ring::account, 1, 1, 1);
        });
        Sentences.holds(part, "there are (settle slots) + 1 slots on its place, one after the other", () -> {
            for (int settle = 0; settle <= 7; settle++) {
                int slots = settle + 1;
                ScanRing ring = rising();
                ring.setSettle(0, settle);
                ring.scan(1);
                Check.due("time", ring.count(0), slots);
                Check.due("slots on channels", ring.account(0), slots);
                Check.due("one reading alone", ring.account(4), 1);
                Check.due("time of the last slot", ring.sample(0, 1), settle);
            }
        });
        Sentences.holds(part, "(the time becomes 1 greater behind each)", () -> {
            ScanRing ring = rising();
            ring.scan(1);
            Check.due("value of the first slot", ring.sample(0, 2), 0);
            ring.scan(1);
            Check.due("value of the second", ring.sample(0, 2), 1);
            ring.setSettle(0, 1);
            ring.setResistance(0, 1);
            ring.scan(1);
            // 1 and 2, then 3: 1.5 and 2.25.
            Check.due("charge behind two more", ring.held(2), 576);
        });
        Sentences.holds(part, "A scan carries out all entries, in their order.", () -> {
            ScanRing ring = Rings.withPlaces(9, 8, 7, 6, 5, 4, 3, 2, 1, 0, 9, 8, 7, 6, 5, 4);
            ring.scan(2);
            Check.due("readings", ring.count(5), 32);
            for (int back = 0; back < 32; back++) {
                Check.due("place " + back, ring.sample(back, 0), ring.entry(15 - back % 16, 0));
                Check.due("time " + back, ring.sample(back, 1), 31 - back);
            }
            ScanRing one = Rings.withPlaces(6);
            one.scan(1);
            Check.due("the only one", one.sample(0, 0), 6);
            Check.due("nothing else", one.sample(1, 0), Rings.NONE);
        });
    }

    /** Channel 0 alone, whose value is the time. */
    private static ScanRing rising() {
        ScanRing ring = Rings.withPlaces(0);
        ring.setSource(0, 1, 0, 16, 0);
        return ring;
    }

    private static void carries() {
        String part = "Scan list";
        Sentences.holds(part, "The carry of an entry is its reading less the reading that it would have if h was 0.0f "
                + "ahead of its first slot, everything else as it is.", () -> {
            // 0.75 of what is held: .5 of a unit is 0.375, 1 is 0.75; the 250 are there without it.
            Check.due("nothing held", carried(0, 0, 3, 0), 0);
            Check.due("too little held", carried(1, 1, 3, 0), 0);
            Check.due("enough held", carried(1, 0, 3, 0), 1);
            Check.due("no resistance", carried(4095, 0, 0, 0), 0);
            Check.due("the greatest resistance", carried(4095, 0, 31, 0), 3967);
            Check.due("behind a settle slot", carried(4095, 0, 31, 1), 3843);
            // 250 and 750 of the 1000, at the top of the readings by the gain: both are 4095.
            ScanRing ring = holding(4095, 0);
            ring.setSource(1, 0, 4095, 0, 0);
            ring.set(1, 1100);
            ring.set(2, 100);
            ring.setSettle(0, 7);
            ring.setResistance(1, 1);
            Check.due("both readings at 4095", ring.would(0, 1), 0);
            ring.setResistance(1, 31);
            // Without it 4095 * (1 - (31 / 32) ^ 8) * 1.1 + 100, which is 1110.3.
            Check.due("one of them at 4095", ring.would(0, 1), 4095 - 1110);
        });
        Sentences.holds(part, "(So behind a ground no entry has a carry.)", () -> {
            for (int resistance = 0; resistance <= 31; resistance++) {
                ScanRing ring = holding(4095, 0);
                ring.addEntry(8, 0, 0);
                ring.setSource(1, 2, 4095, 17, 3);
                ring.setResistance(1, resistance);
                Check.due("with resistance " + resistance, ring.would(1, 1), 0);
                Check.due("scan", ring.scan(1), 0);
            }
        });
        Sentences.holds(part, "the value of the ground is 0, that of the reference the reference level", () -> {
            ScanRing ring = Rings.withPlaces(8, 9);
            ring.set(0, 4000);
            ring.set(2, 100);
            ring.scan(1);
            Check.due("error of the ground", ring.sample(1, 4), 100);
            Check.due("error of the reference at 4095", ring.sample(0, 4), 95);
            ring.set(0, 0);
            ring.set(2, -100);
            ring.scan(1);
            Check.due("error of the ground at 0", ring.sample(1, 4), 0);
            Check.due("error of the reference 0", ring.sample(0, 4), 0);
        });
        Sentences.holds(part, "The error of an entry is its reading less the value of its place "
                + "at the time of its last slot;", () -> {
            ScanRing ring = rising();
            ring.setSettle(0, 7);
            ring.scan(1);
            Check.due("reading of the last slot", ring.sample(0, 2), 7);
            Check.due("without an error", ring.sample(0, 4), 0);
            ring.setSource(0, 2, 4095, 0, 16);
            // The slots 8 to 15 are at 0, the next eight at 4095, whose last one is at 23.
            ring.scan(2);
            Check.due("error at 15", ring.sample(1, 4), 0);
            Check.due("error at 23", ring.sample(0, 4), 0);
        });
    }

    /** A ring that holds what a slot on channel 0 left; its list is channel 1 alone. */
    private static ScanRing holding(int level, int resistance) {
        ScanRing ring = new ScanRing();
        ring.setSource(0, 0, level, 0, 0);
        ring.setResistance(0, resistance);
        TermBounds.readAlone(ring, 0);
        ring.addEntry(1, 0, 0);
        return ring;
    }

    /** The carry of channel 1 at 1000 (at 0 where all that is held would be too much for it). */
    private static int carried(int level, int levelsResistance, int resistance, int settle) {
        ScanRing ring = holding(level, levelsResistance);
        ring.setSource(1, 0, level == 4095 ? 0 : 1000, 0, 0);
        ring.setResistance(1, resistance);
        ring.setSettle(0, settle);
        return ring.would(0, 1);
    }

    private static void order() {
        String part = "Scan list";
        Sentences.holds(part, "Entries that are equal by the rule stay in their order:", () -> {
            for (int rule = 0; rule < 3; rule++) {
                ScanRing ring = new ScanRing();
                for (int entry = 0; entry < 16; entry++) {
                    ring.addEntry(4, entry % 8, entry);
                }
                Check.due("16 equal ones by rule " + rule, ring.order(rule), 0);
                Check.due("settle slots of the ninth", ring.entry(8, 1), 0);
            }
            ScanRing ring = new ScanRing();
            Rings.load(ring, "f:1; 3:4; 3:2; f:5; 3:3; 3=2048;");
            Check.due("resistance 0 as the reference's", ring.order(1), 0);
            Check.due("the value of the reference", ring.order(2), 0);
            Check.holds("both leave it: " + Rings.list(ring), Rings.list(ring).equals("91 34 32 95 33"));
            Check.due("by places", ring.order(0), 5);
            Check.holds("equal places stay: " + Rings.list(ring), Rings.list(ring).equals("34 32 33 91 95"));
        });
        Sentences.holds(part, "1 by ascending resistances (0 for ground and reference)", () -> {
            ScanRing ring = Rings.withPlaces(2, 1, 9, 0, 8);
            ring.setResistance(1, 1);
            ring.setResistance(2, 31);
            Check.due("order", ring.order(1), 5);
            Check.holds("list: " + Rings.places(ring), Rings.places(ring).equals("90812"));
        });
        Sentences.holds(part, "2 by ascending values of their places at the present time", () -> {
            ScanRing ring = Rings.withPlaces(9, 0, 8, 1);
            ring.set(0, 4095);
            ring.setSource(0, 2, 1, 4095, 2);
            ring.setSource(1, 1, 0, 16, 0);
            Check.due("order at 0", ring.order(2), 4);
            Check.holds("0, 0, 1 and 4095: " + Rings.places(ring), Rings.places(ring).equals("8109"));
            ring.pass(1);
            Check.due("order at 1", ring.order(2), 0);
            ring.order(3);
            Check.due("the other way round at 1", ring.order(2), 4);
            Check.holds("0, 1, 4095 and 4095: " + Rings.places(ring), Rings.places(ring).equals("8190"));
        });
        Sentences.holds(part, "3 the whole list in the opposite order.", () -> {
            ScanRing ring = Rings.withPlaces(0, 1, 2, 3, 4, 5, 6, 7, 8, 9, 0, 1, 2, 3, 4, 5);
            ring.order(3);
            Check.holds("all 16", Rings.places(ring).equals("5432109876543210"));
            ring.removeEntry(0);
            ring.order(3);
            Check.holds("15", Rings.places(ring).equals("012345678901234"));
        });
        Sentences.holds(part, "0 by ascending places;", () -> {
            ScanRing ring = Rings.withPlaces(9, 8, 7, 6, 5, 4, 3, 2, 1, 0, 9, 8, 7, 6, 5, 4);
            ring.order(0);
            Check.holds("all 16", Rings.places(ring).equals("0123445566778899"));
        });
    }

    private static void log() {
        String part = "Log, corrections";
        Sentences.holds(part, "The log keeps the latest 32 readings with the place, the time of the last slot", () -> {
            int[] scans = {0, 1, 15, 16, 17, 32, 48};
            for (int times : scans) {
                ScanRing ring = Rings.withPlaces(0, 8);
                ring.setSource(0, 1, 0, 16, 0);
                ring.setSettle(0, 2);
                for (int scan = 0; scan < times; scan++) {
                    ring.scan(1);
                }
                int kept = Math.min(32, 2 * times);
                Check.due("kept behind " + times, ring.count(5), kept);
                for (int back = 0; back < kept; back++) {
                    int one = back;
                    int slot = 4 * (times - 1 - back / 2) + 2;
                    int[] parts = back % 2 == 0 ? new int[] {8, slot + 1, 0, 0, 0} : new int[] {0, slot, slot, 0, 0};
                    Check.dueInOrder("sample " + back + " behind " + times, what -> ring.sample(one, what), parts);
                }
                Check.due("no more", ring.sample(kept, 0), Rings.NONE);
            }
        });
        Sentences.holds(part, "whether the log keeps them still or not; none at first", () -> {
            ScanRing ring = new ScanRing();
            ring.setSource(0, 0, 512, 0, 0);
            Check.due("none at first", ring.channel(0, 6), Rings.NONE);
            TermBounds.readAlone(ring, 8);
            TermBounds.readAlone(ring, 9);
            TermBounds.readAlone(ring, 0);
            Check.due("all in the log", ring.channel(0, 6), 512);
            ring.addEntry(1, 0, 0);
            ring.scan(20);
            ring.scan(10);
            Check.due("33 readings, the ground's has left the log", ring.channel(0, 6), 512);
            ring.scan(20);
            Check.due("none of them is in the log", ring.sample(31, 0), 1);
            Check.due("corrected still", ring.channel(0, 6), 512);
            Check.due("latest reading still", ring.channel(0, 5), 512);
        });
    }

    private static void corrections() {
        String part = "Log, corrections";
        Sentences.holds(part, "if all three have been read", () -> {
            int[][] lists = {{}, {0}, {8}, {9}, {0, 8}, {0, 9}, {8, 9}, {1, 8, 9}, {0, 8, 9}};
            for (int[] places : lists) {
                ScanRing ring = Rings.withPlaces(places);
                ring.scan(1);
                boolean all = places.length == 3 && places[0] == 0;
                Check.due("corrected behind " + Arrays.toString(places), ring.channel(0, 6), all ? 0 : Rings.NONE);
            }
        });
        Sentences.holds(part, "and b is greater than a; otherwise there is none", () -> {
            Check.due("b greater by 1", TermBounds.corrected(7, 5, 6, 3), 6);
            Check.due("b equal", TermBounds.corrected(7, 5, 5, 3), Rings.NONE);
            Check.due("b less by 1", TermBounds.corrected(7, 5, 4, 3), Rings.NONE);
            Check.due("both 0", TermBounds.corrected(7, 0, 0, 3), Rings.NONE);
            Check.due("b 1, a 0", TermBounds.corrected(7, 0, 1, 3), 21);
        });
        Sentences.holds(part, "(y - a) * (reference level) / (b - a)", () -> {
            Check.due("the greatest", TermBounds.corrected(4095, 0, 1, 4095), 16769025);
            Check.due("the least", TermBounds.corrected(0, 100, 101, 4095), -409500);
            Check.due("y equal to a", TermBounds.corrected(100, 100, 101, 4095), 0);
            Check.due("y equal to b", TermBounds.corrected(101, 100, 101, 4095), 4095);
            Check.due("rounded down", TermBounds.corrected(2, 0, 3, 100), 66);
            Check.due("rounded down below 0", TermBounds.corrected(0, 2, 5, 100), -67);
        });
        Sentences.holds(part, "with its latest reading y (also one that the log does not keep any more)", () -> {
            ScanRing ring = Rings.withPlaces(0, 8, 9);
            ring.setSource(0, 0, 100, 0, 0);
            ring.scan(1);
            ring.setSource(0, 0, 200, 0, 0);
            ring.scan(1);
            Check.due("the latest of two", ring.channel(0, 6), 200);
            ring.removeEntry(0);
            ring.scan(14);
            Check.due("behind it in the log is the first scan's reference alone", ring.sample(31, 0), 9);
            Check.due("in the log still", ring.channel(0, 6), 200);
            ring.scan(1);
            Check.due("the log's last one is the ground behind it", ring.sample(31, 0), 8);
            Check.due("not in the log any more", ring.channel(0, 6), 200);
        });
        Sentences.holds(part, "The ground reading is the latest reading of an entry with the place 8, "
                + "the reference reading that of one with the place 9", () -> {
            ScanRing ring = Rings.withPlaces(0, 8, 9);
            ring.setSource(0, 0, 1024, 0, 0);
            int[] offsets = {0, 24, 100};
            for (int offset : offsets) {
                ring.set(2, offset);
                ring.scan(15);
                Check.due("all of them with the offset " + offset, ring.channel(0, 6), 1024);
            }
            // y stays 1124, while a becomes 0 and b 2048.
            ring.set(2, 0);
            ring.removeEntry(0);
            ring.scan(1);
            Check.due("a later ground and a later reference", ring.channel(0, 6), 1124);
        });
        Sentences.holds(part, "(The reference level counts as it is now.)", () -> {
            ScanRing ring = Rings.withPlaces(0, 8, 9);
            ring.setSource(0, 0, 1024, 0, 0);
            ring.scan(1);
            int[] levels = {2048, 0, 1, 2, 4095};
            int[] corrected = {1024, 0, 0, 1, 2047};
            for (int index = 0; index < levels.length; index++) {
                ring.set(0, levels[index]);
                Check.due("with the level " + levels[index], ring.channel(0, 6), corrected[index]);
            }
        });
    }

    private static void accounts() {
        String part = "Accounts";
        Sentences.holds(part, "0 the slots on channels, 1 on the ground, 2 on the reference, "
                + "3 the slots that passed otherwise", () -> {
            int[] places = {0, 7, 8, 9};
            int[] accounts = {0, 0, 1, 2};
            for (int index = 0; index < places.length; index++) {
                ScanRing ring = Rings.withPlaces(places[index]);
                ring.setSettle(0, 7);
                ring.scan(20);
                for (int account = 0; account < 4; account++) {
                    Check.due("account " + account + " of place " + places[index], ring.account(account),
                            account == accounts[index] ? 160 : 0);
                }
            }
            ScanRing ring = new ScanRing();
            ring.pass(1000);
            Check.dueInOrder("accounts of slots that passed", ring::account, 0, 0, 0, 1000, 0, 0, 1000);
        });
        Sentences.holds(part, "4 the readings, 5 the sum of all carries without their signs", () -> {
            ScanRing ring = Rings.withPlaces(9, 0);
            ring.setResistance(0, 1);
            Check.dueInOrder("of none", ring::account, 0, 0, 0, 0, 0, 0, 0);
            for (int scans = 1; scans <= 40; scans++) {
                ring.scan(1);
                Check.due("readings, beyond those of the log", ring.account(4), 2 * scans);
                Check.due("carries", ring.account(5), 1024 * scans);
            }
            ScanRing below = Rings.withCarryBelowZero();
            int before = below.account(5);
            below.scan(1);
            Check.due("a carry of -1 in the log", below.sample(0, 3), -1);
            Check.due("is 1 in the account", below.account(5), before + 1);
        });
        Sentences.holds(part, "The time is always the accounts 0 to 3 together.", () -> {
            ScanRing ring = Rings.withPlaces(0, 8, 9);
            int[] times = {0, 3, 1003, 1063, 1064};
            for (int step = 0; step < times.length; step++) {
                Check.due("time", ring.count(0), times[step]);
                int together = ring.account(0) + ring.account(1) + ring.account(2) + ring.account(3);
                Check.due("accounts together", together, times[step]);
                Check.due("account 6", ring.account(6), times[step]);
                switch (step) {
                    case 0: ring.scan(1); break;
                    case 1: ring.pass(1000); break;
                    case 2: ring.scan(20); break;
                    default: ring.pass(1);
                }
            }
            ring.undo();
            ring.undo();
            Check.due("time behind two undone", ring.count(0), 1063);
            Check.due("account 6 then", ring.account(6), 1063);
        });
    }

    private static void snapshots() {
        String part = "Snapshots";
        Sentences.holds(part, "There are two places for snapshots, empty at first.", () -> {
            ScanRing ring = new ScanRing();
            Check.due("taken at first", ring.count(6), 0);
            Check.due("the first", ring.restore(0), Rings.ILLEGAL);
            Check.due("the second", ring.restore(1), Rings.ILLEGAL);
            Check.due("a third", ring.restore(2), Rings.INVALID);
            ring.take(0);
            ring.take(1);
            Check.due("a third", ring.take(2), Rings.INVALID);
            Check.due("taken then", ring.count(6), 2);
        });
        Sentences.holds(part, "A snapshot keeps the sources, the resistances, the scan list, "
                + "the reference level, gain and offset.", () -> {
            ScanRing ring = filled(0);
            ring.take(0);
            refill(ring, 1);
            ring.restore(0);
            ScanRing same = filled(0);
            for (int number = 0; number < 40; number++) {
                Check.due("channel " + number / 5, ring.channel(number / 5, number % 5), same.channel(number / 5, number % 5));
            }
            Check.holds("list", Rings.list(ring).equals(Rings.list(same)));
            Check.dueInOrder("setting", what -> ring.count(2 + what), 0, 900, -100);
        });
        Sentences.holds(part, "To restore it makes these those of the snapshot; nothing else changes.", () -> {
            ScanRing ring = filled(0);
            ring.take(0);
            refill(ring, 1);
            ring.take(1);
            ring.scan(2);
            ring.pass(3);
            Rings.type(ring, "0=1;");
            int[] before = others(ring);
            ring.restore(0);
            int[] then = others(ring);
            for (int index = 0; index < before.length; index++) {
                Check.due("other property " + index, then[index], before[index]);
            }
            Check.due("the other snapshot", ring.restore(1), 16);
            Check.due("the text", ring.load(), 1);
        });
    }

    /** Time, log, snapshots, text, latest readings, accounts, charge. */
    private static int[] others(ScanRing ring) {
        int[] parts = new int[192];
        int next = 0;
        int[] counts = {0, 5, 6, 9};
        for (int what : counts) {
            parts[next++] = ring.count(what);
        }
        for (int number = 0; number < 160; number++) {
            parts[next++] = ring.sample(number / 5, number % 5);
        }
        for (int number = 0; number < 8; number++) {
            parts[next++] = ring.channel(number, 5);
            parts[next++] = number < 7 ? ring.account(number) : 0;
        }
        parts[next++] = ring.held(0);
        parts[next] = ring.held(2);
        return parts;
    }

    private static ScanRing filled(int kind) {
        ScanRing ring = new ScanRing();
        refill(ring, kind);
        return ring;
    }

    /** Everything that a snapshot keeps, at the one end of its range or at the other. */
    private static void refill(ScanRing ring, int kind) {
        for (int channel = 0; channel < 8; channel++) {
            int source = (channel + kind) % 3;
            int level = kind == 0 ? channel : 4095 - channel;
            ring.setSource(channel, source, level, source == 0 ? 0 : 5, source == 2 ? 2 + 198 * kind : 0);
            ring.setResistance(channel, kind * 24 + channel);
        }
        ring.set(0, 4095 * kind);
        ring.set(1, 900 + 200 * kind);
        ring.set(2, -100 + 200 * kind);
        for (int entry = ring.count(1); entry < 3 + 13 * kind; entry++) {
            ring.addEntry((9 * kind + entry) % 10, 7 * kind, 0);
        }
    }
}
