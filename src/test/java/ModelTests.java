/** All promises: long runs of calls, each answer beside that of the model. The calls come from a fixed seed. */
final class ModelTests {
    private static final int CALLS = 512;

    private final Dice dice;
    private final String name;
    private final ScanRing ring = new ScanRing();
    private final Model model = new Model();
    private int calls;
    private boolean differs;

    private ModelTests(String name, long seed) {
        this.name = name;
        this.dice = new Dice(seed);
    }

    static void run() {
        for (int run = 0; run < 3000; run++) {
            ModelTests test = new ModelTests("run " + run, run * 7919L + 17);
            test.play(run % 5);
            Check.holds("run " + run + " is as the model's", !test.differs);
        }
    }

    /** Numbers that look unordered and are the same each time. */
    private static final class Dice {
        private long seed;

        Dice(long seed) {
            this.seed = seed;
        }

        int below(int bound) {
            seed = seed * 6364136223846793005L + 1442695040888963407L;
            return (int) ((seed >>> 33) % bound);
        }

        int from(int least, int most) {
            return least + below(most - least + 1);
        }

        boolean oneIn(int many) {
            return below(many) == 0;
        }

        /** Mostly in the range, often at its ends, sometimes outside. */
        int around(int least, int most) {
            switch (below(40)) {
                case 0: return least - 1;
                case 1: return most + 1;
                case 2: return oneIn(2) ? Integer.MIN_VALUE : Integer.MAX_VALUE;
                case 3: case 4: case 5: return least;
                case 6: case 7: case 8: return most;
                default: return from(least, most);
            }
        }
    }

    private void play(int kind) {
        while (calls < CALLS) {
            int choice = dice.below(100);
            if (choice < (kind == 1 ? 10 : 2)) {
                playText();
            } else if (choice < 50) {
                change(kind);
            } else if (choice < 80) {
                look();
            } else {
                ask();
            }
        }
    }

    private void due(String call, int got, int want) {
        calls++;
        if (got != want && !differs) {
            differs = true;
            System.out.println(name + ", call " + calls + ": " + call + " answered " + got + ", the model " + want);
        }
    }

    private int entry() {
        return dice.around(0, Math.max(0, model.count(1) - 1));
    }

    private void change(int kind) {
        switch (dice.below(kind == 2 ? 8 : 13)) {
            case 0: setSource(); break;
            case 1: setResistance(); break;
            case 2: set(); break;
            case 3: case 4: addEntry(); break;
            case 5: setSettle(); break;
            case 6: order(); break;
            case 7: scan(kind); break;
            case 8: removeEntry(); break;
            case 9: pass(kind); break;
            case 10: take(); break;
            case 11: restore(); break;
            default: due("undo", ring.undo(), model.undo());
        }
    }

    private void setSource() {
        int channel = dice.around(0, 7);
        int kind = dice.around(0, 2);
        int level = dice.around(0, 4095);
        int second = kind == 0 ? 0 : kind == 1 ? dice.around(-64, 64) : dice.around(0, 4095);
        int period = kind == 2 ? dice.around(2, dice.oneIn(2) ? 200 : 9) : 0;
        if (dice.oneIn(30)) {
            second = dice.around(-64, 64);
            period = dice.around(0, 2);
        }
        due("setSource(" + channel + ", " + kind + ", " + level + ", " + second + ", " + period + ")",
                ring.setSource(channel, kind, level, second, period), model.setSource(channel, kind, level, second, period));
    }

    private void setResistance() {
        int channel = dice.around(0, 7);
        int resistance = dice.around(0, dice.oneIn(2) ? 31 : 4);
        due("setResistance(" + channel + ", " + resistance + ")",
                ring.setResistance(channel, resistance), model.setResistance(channel, resistance));
    }

    private void set() {
        int what = dice.around(0, 2);
        int value = what == 1 ? dice.around(900, 1100) : what == 2 ? dice.around(-100, 100) : dice.around(0, 4095);
        due("set(" + what + ", " + value + ")", ring.set(what, value), model.set(what, value));
    }

    private void addEntry() {
        int place = dice.around(0, 9);
        int settle = dice.around(0, dice.oneIn(2) ? 7 : 1);
        int before = dice.around(0, model.count(1));
        due("addEntry(" + place + ", " + settle + ", " + before + ")",
                ring.addEntry(place, settle, before), model.addEntry(place, settle, before));
    }

    private void removeEntry() {
        int entry = entry();
        due("removeEntry(" + entry + ")", ring.removeEntry(entry), model.removeEntry(entry));
    }

    private void setSettle() {
        int entry = entry();
        int settle = dice.around(0, 7);
        due("setSettle(" + entry + ", " + settle + ")", ring.setSettle(entry, settle), model.setSettle(entry, settle));
    }

    private void order() {
        int rule = dice.around(0, 3);
        due("order(" + rule + ")", ring.order(rule), model.order(rule));
    }

    private void scan(int kind) {
        int times = dice.around(1, kind == 3 ? 20 : 3);
        due("scan(" + times + ")", ring.scan(times), model.scan(times));
    }

    private void pass(int kind) {
        int slots = dice.around(1, kind == 4 ? 1000 : 30);
        due("pass(" + slots + ")", ring.pass(slots), model.pass(slots));
    }

    private void take() {
        int place = dice.around(0, 1);
        due("take(" + place + ")", ring.take(place), model.take(place));
    }

    private void restore() {
        int place = dice.around(0, 1);
        due("restore(" + place + ")", ring.restore(place), model.restore(place));
    }

    /** A text of items, in which something may be wrong, or only a sign more for the text that stands. */
    private void playText() {
        if (dice.oneIn(4)) {
            due("clearText", ring.clearText(), model.clearText());
        }
        StringBuilder text = new StringBuilder();
        int items = dice.below(dice.oneIn(4) ? 16 : 5);
        for (int item = 0; item < items; item++) {
            text.append(item());
        }
        spoil(text);
        if (calls + text.length() + 3 > CALLS) {
            // What calls behind the 512th answer is free: the run ends ahead of a text that needs them.
            calls = CALLS;
            return;
        }
        for (int index = 0; index < text.length(); index++) {
            char character = text.charAt(index);
            due("append(" + (int) character + ")", ring.append(character), model.append(character));
        }
        if (dice.oneIn(6)) {
            int character = dice.around(1, 255);
            due("append(" + character + ")", ring.append(character), model.append(character));
        }
        int answer = model.load();
        due("load of " + text, ring.load(), answer);
        if (answer < 0) {
            due("clearText", ring.clearText(), model.clearText());
        }
    }

    private String item() {
        String channel = number(7);
        switch (dice.below(7)) {
            case 0: return channel + "=" + number(4095) + ";";
            case 1: return channel + "=" + number(4095) + (dice.oneIn(2) ? "+" : "-") + number(64) + ";";
            case 2: return channel + "=" + number(4095) + "," + number(4095) + "/" + dice.from(dice.oneIn(20) ? 0 : 2, 200) + ";";
            case 3: return channel + "r" + number(31) + ";";
            case 4: return channel + ":" + number(7) + ";";
            case 5: return "g:" + number(7) + ";";
            default: return "f:" + number(7) + ";";
        }
    }

    private String number(int most) {
        return String.valueOf(dice.oneIn(30) ? most + 1 : dice.from(0, most));
    }

    private void spoil(StringBuilder text) {
        String signs = "0123456789;;==::rrggff++--,,//  \u00ffab#";
        while (text.length() > 0 && dice.oneIn(2)) {
            int at = dice.below(text.length());
            switch (dice.below(8)) {
                case 0: text.deleteCharAt(at); break;
                case 1: text.insert(at, signs.charAt(dice.below(signs.length()))); break;
                case 2: text.setCharAt(at, signs.charAt(dice.below(signs.length()))); break;
                case 3: text.setLength(at); break;
                default: text.insert(at, ' ');
            }
        }
    }

    private void look() {
        switch (dice.below(7)) {
            case 0: lookAtCount(); break;
            case 1: case 2: lookAtChannel(); break;
            case 3: lookAtEntry(); break;
            case 4: lookAtValue(); break;
            case 5: lookAtSample(); break;
            default: lookAtAccount();
        }
    }

    private void lookAtCount() {
        int what = dice.around(0, 12);
        due("count(" + what + ")", ring.count(what), model.count(what));
    }

    private void lookAtChannel() {
        int channel = dice.around(0, 7);
        int what = dice.around(0, 7);
        due("channel(" + channel + ", " + what + ")", ring.channel(channel, what), model.channel(channel, what));
    }

    private void lookAtEntry() {
        int entry = dice.around(0, 16);
        int what = dice.around(0, 1);
        due("entry(" + entry + ", " + what + ")", ring.entry(entry, what), model.entry(entry, what));
    }

    private void lookAtValue() {
        int channel = dice.around(0, 7);
        int time = dice.around(0, dice.oneIn(2) ? 9999 : 200);
        due("value(" + channel + ", " + time + ")", ring.value(channel, time), model.value(channel, time));
    }

    private void lookAtSample() {
        int back = dice.around(0, 31);
        int what = dice.around(0, 4);
        due("sample(" + back + ", " + what + ")", ring.sample(back, what), model.sample(back, what));
    }

    private void lookAtAccount() {
        int what = dice.around(0, 6);
        due("account(" + what + ")", ring.account(what), model.account(what));
        if (calls == CALLS) {
            return;
        }
        int part = dice.around(0, 2);
        due("held(" + part + ")", ring.held(part), model.held(part));
    }

    private void ask() {
        int entry = entry();
        switch (dice.below(6)) {
            case 0:
                int limit = dice.around(0, dice.oneIn(2) ? 4095 : 100);
                due("settleFor(" + entry + ", " + limit + ")", ring.settleFor(entry, limit), model.settleFor(entry, limit));
                break;
            case 1: due("why(" + entry + ")", ring.why(entry), model.why(entry)); break;
            case 2: due("bestRule", ring.bestRule(), model.bestRule()); break;
            case 3: due("groundsNeeded", ring.groundsNeeded(), model.groundsNeeded()); break;
            default:
                int what = dice.around(0, 2);
                due("would(" + entry + ", " + what + ")", ring.would(entry, what), model.would(entry, what));
        }
    }
}
