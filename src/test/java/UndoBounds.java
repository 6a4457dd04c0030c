import java.util.List;
import java.util.function.Supplier;
import java.util.function.ToIntFunction;

/** The terms "Undo" and "Errors" and what the document says of an object's use, sentence by sentence. */
final class UndoBounds {
    /** Each action but load(), with arguments that a rich ring takes. */
    private static final List<Asked> ACTIONS = List.of(
            new Asked(2, "setSource", ring -> ring.setSource(0, 2, 5, 6, 7)),
            new Asked(3, "setResistance", ring -> ring.setResistance(0, 4)),
            new Asked(4, "set", ring -> ring.set(0, 3)),
            new Asked(5, "addEntry", ring -> ring.addEntry(9, 2, 1)),
            new Asked(6, "removeEntry", ring -> ring.removeEntry(0)),
            new Asked(7, "setSettle", ring -> ring.setSettle(0, 7)),
            new Asked(8, "order", ring -> ring.order(3)),
            new Asked(9, "scan", ring -> ring.scan(2)),
            new Asked(10, "pass", ring -> ring.pass(3)),
            new Asked(11, "take(0)", ring -> ring.take(0)),
            new Asked(11, "take(1)", ring -> ring.take(1)),
            new Asked(12, "restore(0)", ring -> ring.restore(0)),
            new Asked(12, "restore(1)", ring -> ring.restore(1)));
    private static final List<Asked> OTHERS = List.of(
            new Asked(17, "count", ring -> ring.count(0)),
            new Asked(18, "channel", ring -> ring.channel(0, 6)),
            new Asked(19, "entry", ring -> ring.entry(0, 0)),
            new Asked(20, "value", ring -> ring.value(1, 9999)),
            new Asked(21, "sample", ring -> ring.sample(31, 4)),
            new Asked(22, "account", ring -> ring.account(6)),
            new Asked(23, "held", ring -> ring.held(2)),
            new Asked(24, "would", ring -> ring.would(2, 1)),
            new Asked(25, "why", ring -> ring.why(2)),
            new Asked(26, "settleFor", ring -> ring.settleFor(2, 5)),
            new Asked(27, "bestRule", ScanRing::bestRule),
            new Asked(28, "groundsNeeded", ScanRing::groundsNeeded));
    private static final String OF_ACTIONS =
            "Every successful call of a method that is called an action records the state before it";
    /** A ring with two readings in its log and one state in its history. */
    private static final Supplier<ScanRing> TWO_READINGS = () -> {
        ScanRing ring = new ScanRing();
        Rings.load(ring, "0:0;f:0;0=3000;0r1;");
        ring.scan(1);
        ring.scan(1);
        ring.undo();
        return ring;
    };

    /** A call and the promise that tells of it. */
    private record Asked(int promise, String name, ToIntFunction<ScanRing> call) {
    }

    private UndoBounds() {
    }

    static void run() {
        undo();
        errors();
        precedence();
        use();
    }

    private static void undo() {
        String part = "Undo";
        Sentences.holds(part, "A history of at most 5 states is kept", () -> {
            ScanRing ring = new ScanRing();
            for (int action = 1; action <= 7; action++) {
                ring.pass(1);
                Check.due("states behind " + action + " actions", ring.count(8), Math.min(action, 5));
            }
            for (int left = 4; left >= 0; left--) {
                Check.due("undo", ring.undo(), left);
            }
            Check.due("a sixth undo", ring.undo(), Rings.ILLEGAL);
        });
        Sentences.holds(part, "when a sixth one is recorded, the oldest one is dropped", () -> {
            for (int actions = 1; actions <= 17; actions++) {
                ScanRing ring = new ScanRing();
                for (int action = 0; action < actions; action++) {
                    ring.pass(1);
                }
                for (int undone = 1; undone <= Math.min(actions, 5); undone++) {
                    ring.undo();
                    Check.due("time behind " + actions + " actions and " + undone + " undone", ring.count(0), actions - undone);
                }
                Check.due("one more", ring.undo(), Rings.ILLEGAL);
                Check.due("time then", ring.count(0), Math.max(0, actions - 5));
            }
        });
        actionsRecord();
        Sentences.holds(part, "undo() removes the latest state from the history and restores it.", UndoBounds::undoRestores);
        Sentences.holds(part, "a state is everything but the text and the history", () -> {
            ScanRing ring = Rings.YOUNG.get();
            ring.clearText();
            ring.pass(1);
            Rings.type(ring, "0=1");
            Check.due("undo", ring.undo(), 3);
            Check.due("length of the text", ring.count(9), 3);
            Check.due("the text", ring.load(), Rings.TEXT_ERROR - 3);
            ring.append(';');
            Check.due("load", ring.load(), 1);
            Check.due("undo of the load", ring.undo(), 3);
            Check.due("the text is empty", ring.clearText(), 0);
        });
    }

    private static void actionsRecord() {
        for (Asked action : ACTIONS) {
            String sentence = action.promise == 9 ? "This is one action." : "This is an action.";
            Sentences.holds("Promise " + action.promise, sentence, () -> isAction(action));
        }
        Sentences.holds("Promise 16", "This is one action, also without items.", () -> {
            isAction(new Asked(16, "load", ScanRing::load));
            isAction(new Asked(16, "load without items", ring -> ring.clearText() + ring.load()));
        });
        Sentences.holds("Undo", OF_ACTIONS, () -> {
            for (Asked other : OTHERS) {
                Twins.changesNothing(other.name, Rings.YOUNG, other.call);
            }
            ScanRing text = Rings.YOUNG.get();
            text.append('0');
            text.clearText();
            Check.due("states behind append and clearText", text.count(8), 3);
            Check.due("undo is no action", text.undo(), 2);
        });
        Sentences.holds("Undo", OF_ACTIONS, () -> {
            ScanRing same = new ScanRing();
            same.setSource(0, 0, 0, 0, 0);
            same.setResistance(0, 0);
            same.set(1, 1000);
            same.order(0);
            same.load();
            Check.due("states behind actions without effect", same.count(8), 5);
        });
    }

    /** Three states are kept in a young ring. */
    private static void isAction(Asked action) {
        ScanRing ring = Rings.YOUNG.get();
        Check.holds(action.name + " is successful", action.call.applyAsInt(ring) >= 0);
        Check.due("states behind " + action.name, ring.count(8), 4);
        action.call.applyAsInt(ring);
        Check.due("states behind two of " + action.name, ring.count(8), 5);
        action.call.applyAsInt(ring);
        Check.due("states behind three of " + action.name, ring.count(8), 5);
    }

    private static void undoRestores() {
        for (Asked action : ACTIONS) {
            for (int times = 1; times <= 2; times++) {
                dueRestored(action, times, Rings.YOUNG);
            }
        }
        dueRestored(new Asked(9, "a scan of a log that is not full", ring -> ring.scan(1)), 1, TWO_READINGS);
        dueRestored(new Asked(11, "a first snapshot", ring -> ring.take(0)), 1, TWO_READINGS);
        dueRestored(new Asked(11, "a first snapshot in the other place", ring -> ring.take(1)), 1, TWO_READINGS);
        Supplier<ScanRing> withoutText = () -> {
            ScanRing ring = Rings.YOUNG.get();
            ring.clearText();
            return ring;
        };
        Twins.alike("undo of load restores all but the text", withoutText, () -> {
            ScanRing ring = Rings.YOUNG.get();
            ring.load();
            ring.undo();
            return ring;
        });
        Twins.alike("undo of a first action restores a new ring", Rings.NEW, () -> {
            ScanRing ring = new ScanRing();
            ring.setSource(7, 1, 4095, -64, 0);
            ring.undo();
            return ring;
        });
    }

    private static void dueRestored(Asked action, int times, Supplier<ScanRing> start) {
        Twins.alike("undo of " + times + " of " + action.name + " restores all", start, () -> {
            ScanRing ring = start.get();
            for (int time = 0; time < times; time++) {
                action.call.applyAsInt(ring);
            }
            for (int time = 0; time < times; time++) {
                ring.undo();
            }
            return ring;
        });
    }

    private static void errors() {
        String part = "Errors";
        Sentences.holds(part, "`INVALID_ARGUMENT = -10000001`", () -> {
            Check.due("the constant", ScanRing.INVALID_ARGUMENT, -10000001);
            Check.due("an answer", new ScanRing().count(13), -10000001);
        });
        Sentences.holds(part, "`ILLEGAL_STATE = -10000002`", () -> {
            Check.due("the constant", ScanRing.ILLEGAL_STATE, -10000002);
            Check.due("an answer", new ScanRing().undo(), -10000002);
        });
        Sentences.holds(part, "`CAPACITY_EXCEEDED = -10000003`", () -> {
            Check.due("the constant", ScanRing.CAPACITY_EXCEEDED, -10000003);
            Check.due("an answer", Rings.FULL_TO_THE_BRIM.get().pass(1), -10000003);
        });
        Sentences.holds(part, "`NONE = -10000009`", () -> {
            Check.due("the constant", ScanRing.NONE, -10000009);
            Check.due("an answer", new ScanRing().entry(0, 0), -10000009);
        });
        Sentences.holds(part, "A call that returns an error code changes nothing.", UndoBounds::refusedCalls);
    }

    /** Of a ring whose list, log, history, text and time are full, and of a new one whose lists are empty. */
    private static void refusedCalls() {
        Supplier<ScanRing> full = Rings.FULL_TO_THE_BRIM;
        Twins.refused("setSource", full, ring -> ring.setSource(0, 1, 5, 65, 0), Rings.INVALID);
        Twins.refused("setResistance", full, ring -> ring.setResistance(0, 32), Rings.INVALID);
        Twins.refused("set", full, ring -> ring.set(1, 899), Rings.INVALID);
        Twins.refused("addEntry", full, ring -> ring.addEntry(0, 0, 0), Rings.FULL);
        Twins.refused("removeEntry", full, ring -> ring.removeEntry(16), Rings.INVALID);
        Twins.refused("setSettle", full, ring -> ring.setSettle(0, 8), Rings.INVALID);
        Twins.refused("order", full, ring -> ring.order(4), Rings.INVALID);
        Twins.refused("scan", full, ring -> ring.scan(1), Rings.FULL);
        Twins.refused("pass", full, ring -> ring.pass(1), Rings.FULL);
        Twins.refused("take", full, ring -> ring.take(2), Rings.INVALID);
        Twins.refused("append", full, ring -> ring.append('0'), Rings.FULL);
        Twins.refused("setSource", Rings.NEW, ring -> ring.setSource(8, 1, 5, 6, 0), Rings.INVALID);
        Twins.refused("setResistance", Rings.NEW, ring -> ring.setResistance(8, 1), Rings.INVALID);
        Twins.refused("set", Rings.NEW, ring -> ring.set(3, 950), Rings.INVALID);
        Twins.refused("addEntry", Rings.NEW, ring -> ring.addEntry(0, 0, 1), Rings.INVALID);
        Twins.refused("removeEntry", Rings.NEW, ring -> ring.removeEntry(0), Rings.INVALID);
        Twins.refused("setSettle", Rings.NEW, ring -> ring.setSettle(0, 1), Rings.INVALID);
        Twins.refused("scan", Rings.NEW, ring -> ring.scan(1), Rings.ILLEGAL);
        Twins.refused("pass", Rings.NEW, ring -> ring.pass(1001), Rings.INVALID);
        Twins.refused("restore", Rings.NEW, ring -> ring.restore(1), Rings.ILLEGAL);
        Twins.refused("undo", Rings.NEW, ScanRing::undo, Rings.ILLEGAL);
        Twins.refused("append", Rings.NEW, ring -> ring.append(0), Rings.INVALID);
    }

    private static void precedence() {
        Sentences.holds("Errors", "the method returns the one that its description lists first", () -> {
            ScanRing full = Rings.FULL_TO_THE_BRIM.get();
            Check.due("addEntry with a wrong place to a full list", full.addEntry(10, 0, 0), Rings.INVALID);
            Check.due("scan(0) at the end", full.scan(0), Rings.INVALID);
            Check.due("pass(0) at the end", full.pass(0), Rings.INVALID);
            Check.due("append(0) to a full text", full.append(0), Rings.INVALID);
            for (int entry = 15; entry >= 0; entry--) {
                full.removeEntry(entry);
            }
            Check.due("scan(0) of an empty list at the end", full.scan(0), Rings.INVALID);
            Check.due("scan(1) of an empty list at the end", full.scan(1), Rings.ILLEGAL);
            Check.due("restore(2) while all are empty", new ScanRing().restore(2), Rings.INVALID);
        });
        Sentences.holds("Errors", "NONE is no error, and it is returned only if no error condition applies.", () -> {
            ScanRing ring = new ScanRing();
            Check.due("channel(8, 5)", ring.channel(8, 5), Rings.INVALID);
            Check.due("channel(-1, 6)", ring.channel(-1, 6), Rings.INVALID);
            Check.due("entry(0, 2)", ring.entry(0, 2), Rings.INVALID);
            Check.due("entry(-1, 0)", ring.entry(-1, 0), Rings.INVALID);
            Check.due("sample(0, 5)", ring.sample(0, 5), Rings.INVALID);
            Check.due("sample(-1, 0)", ring.sample(-1, 0), Rings.INVALID);
            ring.setResistance(0, 31);
            ring.setSource(0, 0, 4095, 0, 0);
            ring.addEntry(0, 0, 0);
            Check.due("settleFor(0, 0)", ring.settleFor(0, 0), Rings.NONE);
            Check.due("settleFor(0, -1)", ring.settleFor(0, -1), Rings.INVALID);
            Check.due("settleFor(1, 0)", ring.settleFor(1, 0), Rings.INVALID);
            Check.due("states behind answers of NONE", ring.count(8), 3);
        });
    }

    private static void use() {
        Sentences.holds("What it is", "An object is used for at most 512 calls after it has been made", () -> {
            ScanRing ring = Rings.withPlaces(0, 8, 9);
            // Six calls until now, as addPlaces asks for the number of entries: 506 are left.
            for (int call = 0; call < 505; call++) {
                Check.due("pass", ring.pass(10), 10 * (call + 1));
            }
            Check.due("the last call", ring.scan(20), 0);
        });
    }
}
