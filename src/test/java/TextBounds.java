import java.util.function.Supplier;

/** Promises 14 to 16 and the part "Text", sentence by sentence. */
final class TextBounds {
    private static final String SPACES = " ".repeat(140);
    /** A text of each kind of item, each number the least that it may be, then each the greatest. */
    private static final String[] LEAST = {"0=0;", "0=0+0;", "0=0-0;", "0=0,0/2;", "0r0;", "0:0;", "g:0;", "f:0;"};
    private static final String[] GREATEST = {
        "7=4095;", "7=4095+64;", "7=4095-64;", "7=4095,4095/200;", "7r31;", "7:7;", "g:7;", "f:7;"};
    private static final Supplier<ScanRing> LONGEST = () -> withText(SPACES);

    private TextBounds() {
    }

    private static ScanRing withText(String text) {
        ScanRing ring = new ScanRing();
        Rings.type(ring, text);
        return ring;
    }

    static void run() {
        append();
        clearText();
        load();
        numbers();
        grammar();
        positions();
    }

    private static void append() {
        String promise = "Promise 14";
        Sentences.holds(promise, "`character`: character code, 1 to 255", () -> {
            Twins.dueWithin(1, 255, "append", Rings.RICH, ScanRing::append);
            for (int code = 1; code <= 255; code++) {
                Check.due("append of " + code, new ScanRing().append(code), 1);
            }
        });
        Sentences.holds(promise, "Returns the new length of the text", () -> {
            ScanRing ring = new ScanRing();
            for (int length = 1; length <= 140; length++) {
                Check.due("append", ring.append('0'), length);
                Check.due("length", ring.count(9), length);
            }
        });
        Sentences.holds(promise, "INVALID_ARGUMENT if character is out of range; CAPACITY_EXCEEDED", () -> {
            Twins.refused("append(0) to 140", LONGEST, ring -> ring.append(0), Rings.INVALID);
            Twins.refused("append(256) to 140", LONGEST, ring -> ring.append(256), Rings.INVALID);
        });
        Sentences.holds(promise, "CAPACITY_EXCEEDED if the text already has 140 characters", () -> {
            Check.due("append to 139", withText(SPACES.substring(1)).append(' '), 140);
            Twins.refused("append(1) to 140", LONGEST, ring -> ring.append(1), Rings.FULL);
            Twins.refused("append(255) to 140", LONGEST, ring -> ring.append(255), Rings.FULL);
            Twins.refused("append(';') to 140", Rings.FULL_TO_THE_BRIM, ring -> ring.append(';'), Rings.FULL);
        });
        Sentences.holds("Text", "A text has at most 140 characters", () -> {
            ScanRing ring = withText("0r1;".repeat(35));
            Check.due("the 141st", ring.append(';'), Rings.FULL);
            Check.due("all 140 are read", ring.load(), 35);
        });
    }

    private static void clearText() {
        String promise = "Promise 15";
        Sentences.holds(promise, "Makes the text empty.", () -> {
            ScanRing ring = LONGEST.get();
            ring.clearText();
            Check.due("length", ring.count(9), 0);
            Check.due("there is room again", ring.append('0'), 1);
            Check.due("nothing of it is read any more", ring.load(), Rings.TEXT_ERROR - 1);
        });
        Sentences.holds(promise, "Returns the previous length of the text.", () -> {
            Check.due("of none", new ScanRing().clearText(), 0);
            Check.due("of one", withText("0").clearText(), 1);
            Check.due("of 140", LONGEST.get().clearText(), 140);
            ScanRing twice = LONGEST.get();
            twice.clearText();
            Check.due("for the second time", twice.clearText(), 0);
        });
    }

    private static void load() {
        String promise = "Promise 16";
        Sentences.holds(promise, "The text becomes empty.", () -> {
            String[] texts = {"", " ", "0=1;", "0r1;".repeat(35), SPACES};
            for (String text : texts) {
                ScanRing ring = withText(text);
                ring.load();
                Check.due("length behind the load of " + text, ring.count(9), 0);
                Check.due("the next load", ring.load(), 0);
            }
        });
        Sentences.holds(promise, "This is one action, also without items.", () -> {
            String[] texts = {"", " ", "0=1;", "0r1;".repeat(35)};
            for (String text : texts) {
                ScanRing ring = withText(text);
                ring.load();
                Check.due("states behind the load of " + text, ring.count(8), 1);
            }
        });
        Sentences.holds(promise, "Returns the number of items", () -> {
            Check.due("none", new ScanRing().load(), 0);
            Check.due("one", withText("0r1;").load(), 1);
            Check.due("two alike", withText("0r1;0r1;").load(), 2);
            Check.due("35, the most that 140 characters hold", withText("0r1;".repeat(35)).load(), 35);
            Check.due("16 entries", withText("g:0;".repeat(16)).load(), 16);
        });
        Sentences.holds(promise, "-20000000 minus the error position if the text has an error", () -> {
            Check.due("at 0", withText(";").load(), -20000000);
            Check.due("at 1", withText("0").load(), -20000001);
            Check.due("at 139", withText(SPACES.substring(1) + ";").load(), -20000139);
            Check.due("at 140", withText(SPACES.substring(1) + "0").load(), -20000140);
        });
        Sentences.holds(promise, "(then nothing changes, and the text is kept)", TextBounds::nothingChanges);
    }

    private static void nothingChanges() {
        String[] texts = {";", "0=1;1=2;1r3;g:3;2=1,2/1;", "g:0;".repeat(17), "0=1;".repeat(34) + "0r31",
            SPACES.substring(1) + "0"};
        for (String text : texts) {
            Supplier<ScanRing> start = () -> {
                ScanRing ring = Rings.YOUNG.get();
                ring.clearText();
                Rings.type(ring, text);
                return ring;
            };
            Twins.changesNothing("a load of " + text, start, ScanRing::load);
            ScanRing ring = start.get();
            Check.holds("the load has an error", ring.load() <= Rings.TEXT_ERROR);
            Check.due("the text is kept", ring.count(9), text.length());
        }
    }

    /** The error position of the text, in a new ring. */
    private static void fails(String text, int position) {
        Check.due("load of \"" + text + "\"", withText(text).load(), Rings.TEXT_ERROR - position);
    }

    private static void loads(String text, int items) {
        Check.due("load of \"" + text + "\"", withText(text).load(), items);
    }

    private static void numbers() {
        Sentences.holds("Text", "All these are numbers in their ranges, of digits, the first of several not 0.", () -> {
            for (String text : LEAST) {
                loads(text, 1);
            }
            for (String text : GREATEST) {
                loads(text, 1);
            }
            ScanRing ring = withText("0=0,4095/2;1=4095,0/200;2=0+64;3=4095-64;4=10+0;5=10-0;6r31;7r0;7=4095;");
            Check.due("items", ring.load(), 9);
            int[][] properties = {{2, 0, 4095, 2, 0}, {2, 4095, 0, 200, 0}, {1, 0, 64, 0, 0}, {1, 4095, -64, 0, 0},
                {1, 10, 0, 0, 0}, {1, 10, 0, 0, 0}, {0, 0, 0, 0, 31}, {0, 4095, 0, 0, 0}};
            for (int channel = 0; channel < 8; channel++) {
                int one = channel;
                Check.dueInOrder("channel " + channel, what -> ring.channel(one, what), properties[channel]);
            }
            ScanRing list = withText("0:0;7:7;g:0;g:7;f:0;f:7;");
            Check.due("entries", list.load(), 6);
            Check.holds("list: " + Rings.list(list), Rings.list(list).equals("00 77 80 87 90 97"));
        });
        Sentences.holds("Text", "CHANNEL \"=\" LEVEL a constant source", () -> {
            loads("0=4095;7=0;", 2);
            fails("8=0;", 0);
            fails("9=0;", 0);
            fails("10=0;", 0);
            fails("0=4096;", 2);
            fails("0=9999;", 2);
            fails("0=10000;", 2);
            fails("0=-1;", 2);
        });
        Sentences.holds("Text", "CHANNEL \"=\" LEVEL \"+\" SLOPE or CHANNEL \"=\" LEVEL \"-\" SLOPE "
                + "a rising one; SLOPE is 0 to 64", () -> {
            loads("0=4095+0;7=0-0;0=0-64;7=4095+64;", 4);
            fails("0=0+65;", 4);
            fails("0=0-65;", 4);
            fails("0=0+100;", 4);
            fails("0=4096+0;", 2);
            fails("0=4096-0;", 2);
            fails("8=0+0;", 0);
            fails("0=0+-1;", 4);
        });
        Sentences.holds("Text", "CHANNEL \"=\" LEVEL \",\" LEVEL \"/\" PERIOD a jumping one", () -> {
            loads("0=4095,0/2;7=0,4095/200;", 2);
            fails("0=0,4096/2;", 4);
            fails("0=4096,0/2;", 2);
            fails("0=0,0/1;", 6);
            fails("0=0,0/0;", 6);
            fails("0=0,0/201;", 6);
            fails("0=0,0/1000;", 6);
            fails("8=0,0/2;", 0);
        });
        Sentences.holds("Text", "CHANNEL \"r\" RESISTANCE the resistance", () -> {
            loads("0r31;7r0;", 2);
            fails("0r32;", 2);
            fails("0r100;", 2);
            fails("8r0;", 0);
        });
        Sentences.holds("Text", "PLACE \":\" SETTLE an entry behind the scan list, "
                + "PLACE being a channel, \"g\" for the ground or \"f\" for the reference", () -> {
            ScanRing ring = Rings.withPlaces(3);
            Check.due("entries", Rings.load(ring, "0:7;7:0;g:7;g:0;f:7;f:0;"), 6);
            Check.holds("behind the list: " + Rings.list(ring), Rings.list(ring).equals("30 07 70 87 80 97 90"));
            fails("0:8;", 2);
            fails("g:8;", 2);
            fails("f:10;", 2);
            fails("8:0;", 0);
            fails("9:0;", 0);
            fails("e:0;", 0);
            fails("h:0;", 0);
            fails("G:0;", 0);
            fails("F:0;", 0);
            fails("g=0;", 1);
            fails("fr0;", 1);
        });
    }

    private static void grammar() {
        Sentences.holds("Text", "it is a sequence of items (possibly none)", () -> {
            loads("", 0);
            loads(" ", 0);
            loads(SPACES, 0);
            loads("0=1;", 1);
        });
        Sentences.holds("Text", "each of which ends with \";\"", TextBounds::ends);
        Sentences.holds("Text", "the first of several not 0", TextBounds::zerosAhead);
        Sentences.holds("Text", "Spaces (code 32) may stand everywhere except within numbers.", TextBounds::spaces);
        Sentences.holds("Text", "The text is read from left to right, and the items are carried out in their order.", () -> {
            ScanRing ring = withText("0=1+2;0=3,4/5;0=6;0r7;0r8;1:1;g:2;1:3;f:4;");
            Check.due("items", ring.load(), 9);
            Check.dueInOrder("the later one counts", what -> ring.channel(0, what), 0, 6, 0, 0, 8);
            Check.holds("entries in their order", Rings.list(ring).equals("11 82 13 94"));
            ScanRing behind = Rings.withPlaces(5, 6);
            Rings.load(behind, "7:7;");
            Check.holds("behind the scan list", Rings.list(behind).equals("50 60 77"));
            fails("0=a;1=b;", 2);
            fails("0=1;1=b;0=4096;", 6);
        });
    }

    private static void ends() {
        for (String text : GREATEST) {
            String open = text.substring(0, text.length() - 1);
            fails(open, open.length());
            fails(open + "#", open.length());
            fails(open + ":;", open.length());
            fails(text + ";", text.length());
            loads(text + text, 2);
        }
        fails(";", 0);
    }

    private static void zerosAhead() {
        String[] alone = {"0=0;", "0=0+0;", "0=0-0;", "0=0,0/2;", "0r0;", "0:0;", "0=10;", "0r10;", "0=100,100/100;"};
        for (String text : alone) {
            loads(text, 1);
        }
        fails("00=1;", 0);
        fails("07=1;", 0);
        fails("0=00;", 2);
        fails("0=01;", 2);
        fails("0=04095;", 2);
        fails("0=1+00;", 4);
        fails("0=1+064;", 4);
        fails("0=1-01;", 4);
        fails("0=1,00/2;", 4);
        fails("0=1,01/2;", 4);
        fails("0=1,2/02;", 6);
        fails("0=1,2/0200;", 6);
        fails("0r00;", 2);
        fails("0r031;", 2);
        fails("0:00;", 2);
        fails("g:07;", 2);
        fails("0=1;00r1;", 4);
    }

    private static void spaces() {
        for (String text : GREATEST) {
            loads(spacedOut(text, ' '), 1);
        }
        Check.due("a jumping one", withText(" 7 = 4095 , 4095 / 200 ; ").load(), 1);
        fails("0=1 0;", 4);
        fails("1 0=1;", 2);
        fails("0=1+1 0;", 6);
        fails("0=1-1 0;", 6);
        fails("0=1,1 0/2;", 6);
        fails("0=1,1/2 0;", 8);
        fails("0r1 0;", 4);
        fails("0:1 0;", 4);
        int[] others = {1, 9, 10, 13, 31, 33, 160, 255};
        for (int code : others) {
            fails((char) code + "0=1;", 0);
            fails("0" + (char) code + "=1;", 1);
            fails("0=" + (char) code + "1;", 2);
            fails("0=1" + (char) code + ";", 3);
            fails("0=1;" + (char) code, 4);
        }
    }

    /** Two signs ahead of the text, behind it and between any two of its characters that are not both digits. */
    private static String spacedOut(String text, char sign) {
        StringBuilder spaced = new StringBuilder().append(sign).append(sign);
        for (int index = 0; index < text.length(); index++) {
            spaced.append(text.charAt(index));
            boolean isLast = index + 1 == text.length();
            if (isLast || !Character.isDigit(text.charAt(index)) || !Character.isDigit(text.charAt(index + 1))) {
                spaced.append(sign).append(sign);
            }
        }
        return spaced.toString();
    }

    private static void positions() {
        Sentences.holds("Text", "the first character that is not allowed where it stands", TextBounds::charactersNotAllowed);
        Sentences.holds("Text", "for a number (CHANNEL, too) that is out of its range or has a 0 ahead, "
                + "its first digit, whatever follows", TextBounds::firstDigits);
        Sentences.holds("Text", "for an entry that would be the 17th one, its \":\"", TextBounds::seventeenth);
        Sentences.holds("Text", "If the text ends where something is missing, it is the length of the text.",
                TextBounds::shortTexts);
    }

    private static void charactersNotAllowed() {
        fails("#", 0);
        fails("#0=1;", 0);
        fails("  #", 2);
        String[] texts = {"0", "0=", "0=1", "0=1+", "0=1+2", "0=1-", "0=1-2", "0=1,", "0=1,2", "0=1,2/", "0=1,2/3",
            "0r", "0r1", "0:", "0:1", "g", "g:", "g:1", "0=1;"};
        for (String text : texts) {
            fails(text + "#", text.length());
            fails(text + "#0=1;", text.length());
            fails(text + "  #", text.length() + 2);
        }
        // Signs that are allowed elsewhere.
        fails("0+1;", 1);
        fails("0,1;", 1);
        fails("0/1;", 1);
        fails("0;", 1);
        fails("0g:1;", 1);
        fails("gg:1;", 1);
        fails("0=1=2;", 3);
        fails("0=1/2;", 3);
        fails("0=1r2;", 3);
        fails("0=1:2;", 3);
        fails("0=1+2+3;", 5);
        fails("0=1-2,3/4;", 5);
        fails("0=1,2;", 5);
        fails("0=1,2,3;", 5);
        fails("0=1,2+3;", 5);
        fails("0=1,2/3/4;", 7);
        fails("0r1+2;", 3);
        fails("0:1:2;", 3);
        fails("+0=1;", 0);
        fails("=1;", 0);
        fails("r1;", 0);
        fails(":1;", 0);
    }

    private static void firstDigits() {
        String[] follows = {"", " ", ";", "#", " 0;", "=1;", ":1;", ";0=9;"};
        for (String rest : follows) {
            fails("8" + rest, 0);
            fails(" 00" + rest, 1);
            fails("0=  4096" + rest, 4);
            fails("0=01" + rest, 2);
            fails("0=1+65" + rest, 4);
            fails("0=1- 065" + rest, 5);
            fails("0=1,4096" + rest, 4);
            fails("0=1,2/1" + rest, 6);
            fails("0=1,2/0" + rest, 6);
            fails("0=1,2/201" + rest, 6);
            fails("0r32" + rest, 2);
            fails("0: 8" + rest, 3);
            fails("g:09" + rest, 2);
        }
        // Numbers that come back into the range in 32 or 64 bits.
        fails("4294967296=1;", 0);
        fails("0=4294967297;", 2);
        fails("0=18446744073709551617;", 2);
        fails("0r2147483648;", 2);
        fails("0:" + "9".repeat(138), 2);
        fails("0:" + "0".repeat(138), 2);
        fails("1".repeat(140), 0);
    }

    private static void seventeenth() {
        Supplier<ScanRing> fifteen = () -> Rings.withPlaces(0, 0, 0, 0, 0, 0, 0, 0, 0, 0, 0, 0, 0, 0, 0);
        Check.due("the 16th", Rings.load(fifteen.get(), "7:7;"), 1);
        Check.due("the 17th behind the 16th", Rings.load(fifteen.get(), "7:7;7:7;"), Rings.TEXT_ERROR - 5);
        Check.due("17 in one text", withText("g:0;".repeat(17)).load(), Rings.TEXT_ERROR - 65);
        String[] texts = {"0:0;", "g:0;", "f:0;", " 7  : 1;", "g :8;", "0:", "0:#", "0:07;", "0=1;1:1;"};
        int[] positions = {1, 1, 1, 4, 2, 1, 1, 1, 5};
        for (int index = 0; index < texts.length; index++) {
            Check.due("load of " + texts[index] + " into a full list",
                    Rings.load(sixteen(), texts[index]), Rings.TEXT_ERROR - positions[index]);
        }
        Check.due("no entry, so no 17th", Rings.load(sixteen(), "0=1;0r1;"), 2);
        Check.due("a wrong place ahead of it", Rings.load(sixteen(), "8:0;"), Rings.TEXT_ERROR);
        Check.due("another sign in its place", Rings.load(sixteen(), "g;"), Rings.TEXT_ERROR - 1);
        Check.due("nothing in its place", Rings.load(sixteen(), "g "), Rings.TEXT_ERROR - 2);
    }

    private static ScanRing sixteen() {
        return Rings.withPlaces(0, 1, 2, 3, 4, 5, 6, 7, 8, 9, 0, 0, 0, 0, 0, 0);
    }

    private static void shortTexts() {
        for (String text : GREATEST) {
            for (int length = 1; length < text.length(); length++) {
                String prefix = text.substring(0, length);
                // A period of 2 or 20 is in its range, and so is each beginning of the other numbers.
                fails(prefix, length);
                fails(prefix + "   ", length + 3);
                fails("0=1;" + prefix, length + 4);
            }
        }
        fails(SPACES.substring(1) + "g", 140);
        fails("0" + SPACES.substring(1), 140);
        fails("0=1;".repeat(34) + "7r31", 140);
    }
}
