/** Promises 14 to 16: the text and what it says. */
final class TextTests {
    private static final int ERROR = -20000000;

    private TextTests() {
    }

    static void run() {
        append();
        clearText();
        loadSources();
        loadEntries();
        loadWithSpaces();
        loadNothing();
        loadIsOneAction();
        errorsOfNumbers();
        errorsOfSigns();
        errorsOfShortTexts();
        errorsOfFullLists();
        errorsChangeNothing();
        fullText();
    }

    /** Promise 14. */
    private static void append() {
        ScanRing ring = new ScanRing();
        Check.due("append(1)", ring.append(1), 1);
        Check.due("append(255)", ring.append(255), 2);
        Check.due("append(0)", ring.append(0), Rings.INVALID);
        Check.due("append(256)", ring.append(256), Rings.INVALID);
        for (int wrong : Rings.OUTSIDE) {
            Check.due("append(" + wrong + ")", ring.append(wrong), Rings.INVALID);
        }
        for (int length = 3; length <= 140; length++) {
            Check.due("append to " + length, ring.append(' '), length);
        }
        Check.due("the 141st", ring.append(' '), Rings.FULL);
        Check.due("a wrong 141st", ring.append(0), Rings.INVALID);
        Check.due("140 characters", ring.count(9), 140);
        Check.due("append is no action", ring.count(8), 0);
    }

    /** Promise 15. */
    private static void clearText() {
        ScanRing ring = new ScanRing();
        Rings.type(ring, "0=1;");
        Check.due("clearText", ring.clearText(), 4);
        Check.due("clearText again", ring.clearText(), 0);
        Check.due("clearText is no action", ring.count(8), 0);
        Check.due("load of the cleared text", ring.load(), 0);
        Check.due("length then", ring.count(9), 0);
        Check.due("append then", ring.append('0'), 1);
    }

    /** Promise 16. */
    private static void loadSources() {
        ScanRing ring = new ScanRing();
        Check.due("load", Rings.load(ring, "0=4095;1=0+64;2=10-64;3=1,4095/200;4=4095,0/2;5r31;6=7+0;7=7-0;5r0;7r9;"), 10);
        due(ring, 0, 0, 4095, 0, 0, 0);
        due(ring, 1, 1, 0, 64, 0, 0);
        due(ring, 2, 1, 10, -64, 0, 0);
        due(ring, 3, 2, 1, 4095, 200, 0);
        due(ring, 4, 2, 4095, 0, 2, 0);
        due(ring, 5, 0, 0, 0, 0, 0);
        due(ring, 6, 1, 7, 0, 0, 0);
        due(ring, 7, 1, 7, 0, 0, 9);
        Check.due("the text is empty", ring.count(9), 0);
        Check.due("the later one counts", Rings.load(ring, "3=1,2/3;3=4+5;3=6;"), 3);
        due(ring, 3, 0, 6, 0, 0, 0);
    }

    private static void due(ScanRing ring, int channel, int... properties) {
        Check.dueInOrder("channel " + channel, what -> ring.channel(channel, what), properties);
    }

    private static void loadEntries() {
        ScanRing ring = Rings.withPlaces(5);
        Check.due("load entries", Rings.load(ring, "0:0;7:7;g:1;f:2;0:3;"), 5);
        Check.holds("entries: " + Rings.list(ring), Rings.list(ring).equals("50 00 77 81 92 03"));
    }

    private static void loadWithSpaces() {
        ScanRing ring = new ScanRing();
        Check.due("load with spaces", Rings.load(ring, "  0  =  12  ,  34  /  56  ; 1 r 2 ;  f : 3 ;   1 = 5 - 6 ;"), 4);
        due(ring, 0, 2, 12, 34, 56, 0);
        due(ring, 1, 1, 5, -6, 0, 2);
        Check.holds("entry", Rings.list(ring).equals("93"));
        Check.due("a space in a number", Rings.load(ring, "0=1 2;"), ERROR - 4);
        Check.due("a space in a channel", Rings.load(ring, "0 1=2;"), ERROR - 2);
        Check.due("a tabulator", Rings.load(ring, "0=\t1;"), ERROR - 2);
        Check.due("the character 160", Rings.load(ring, "\u00a00=1;"), ERROR);
    }

    private static void loadNothing() {
        ScanRing ring = new ScanRing();
        Check.due("load of no text", ring.load(), 0);
        Check.due("it is an action", ring.count(8), 1);
        Check.due("load of spaces", Rings.load(ring, "   "), 0);
        Check.due("it is one, too", ring.count(8), 2);
        Check.due("and the text is empty then", ring.count(9), 0);
    }

    private static void loadIsOneAction() {
        ScanRing ring = new ScanRing();
        Rings.load(ring, "0=1;1=2;g:3;");
        Check.due("one state", ring.count(8), 1);
        Check.due("undo", ring.undo(), 0);
        Check.due("no entry", ring.count(1), 0);
        due(ring, 0, 0, 0, 0, 0, 0);
        due(ring, 1, 0, 0, 0, 0, 0);
        Check.due("the text does not come back", ring.count(9), 0);
    }

    private static void errorsOfNumbers() {
        ScanRing ring = new ScanRing();
        String[] texts = {
            "8=1;", "00=1;", "07=1;", "10=1;", "9", "8:0;", "8r0;",
            "0=4096;", "0=00;", "0=01;", "0=99999999999999999999;", "0=4294967297;", "0=40960#",
            "0=1+65;", "0=1+064;", "0=1-65;", "0=1-00;", "0=1,4096/2;", "0=1,02/2;",
            "0=1,2/1;", "0=1,2/0;", "0=1,2/201;", "0=1,2/02;", "0r32;", "0r00;", "0:8;", "0:07;", "g:8", "f:10",
        };
        int[] positions = {
            0, 0, 0, 0, 0, 0, 0,
            2, 2, 2, 2, 2, 2,
            4, 4, 4, 4, 4, 4,
            6, 6, 6, 6, 2, 2, 2, 2, 2, 2,
        };
        due(ring, texts, positions);
        Check.due("behind a good item", Rings.load(ring, "0=1; 12=3;"), ERROR - 5);
        Check.due("with spaces ahead", Rings.load(ring, "0=   4096;"), ERROR - 5);
    }

    private static void errorsOfSigns() {
        ScanRing ring = new ScanRing();
        String[] texts = {
            "#", ";", "=1;", "r1;", ":1;", "h:1;", "G:1;", "F:1;", "0R1;", "+1=2;",
            "g=1;", "gr1;", "f1:2;", "g;", "0;", "0+1;", "0 1;", "0g:1;",
            "0=;", "0=-1;", "0=a;", "0=1:", "0=1/2;", "0=1r2;", "0=1+;", "0=1+-2;", "0=1-+2;", "0=1+2+3;", "0=1+2,3/4;",
            "0=1,;", "0=1,-2/3;", "0=1,2;", "0=1,2,3;", "0=1,2/;", "0=1,2/-3;", "0=1,2/3/4;", "0=1,2+3;",
            "0r;", "0r-1;", "0r1,", "0:;", "0:-1;", "0:1:", "0=1;;", "0=1;#", "0=1\u00ff", "0=1;\u0001",
        };
        int[] positions = {
            0, 0, 0, 0, 0, 0, 0, 0, 1, 0,
            1, 1, 1, 1, 1, 1, 2, 1,
            2, 2, 2, 3, 3, 3, 4, 4, 4, 5, 5,
            4, 4, 5, 5, 6, 6, 7, 5,
            2, 2, 3, 2, 2, 3, 4, 4, 3, 4,
        };
        due(ring, texts, positions);
    }

    /** If something is missing, the position is the length of the text, spaces at its end too. */
    private static void errorsOfShortTexts() {
        ScanRing ring = new ScanRing();
        String[] texts = {
            "0", "g", "f ", "0=", "0=1", "0=1+", "0=1-", "0=1+2", "0=1,", "0=1,2", "0=1,2/", "0=1,2/3", "0r", "0r1",
            "0:", "0:1", "g:", "f:7", "0=1;1", "  0  =  1   ",
        };
        for (String text : texts) {
            Check.due("load " + text, Rings.load(ring, text), ERROR - text.length());
        }
    }

    private static void due(ScanRing ring, String[] texts, int[] positions) {
        Check.due("as many texts as positions", texts.length, positions.length);
        for (int index = 0; index < texts.length; index++) {
            Check.due("load " + texts[index], Rings.load(ring, texts[index]), ERROR - positions[index]);
        }
    }

    private static void errorsOfFullLists() {
        ScanRing ring = new ScanRing();
        for (int entry = 0; entry < 14; entry++) {
            ring.addEntry(0, 0, 0);
        }
        Check.due("three more", Rings.load(ring, "0:0;g:1;f : 9;"), ERROR - 10);
        Check.due("three more, a short one", Rings.load(ring, "0:0;g:1;f :"), ERROR - 10);
        Check.due("three more, one without a sign", Rings.load(ring, "0:0;g:1;f 1"), ERROR - 10);
        Check.due("three more, one at its end", Rings.load(ring, "0:0;g:1;f "), ERROR - 10);
        Check.due("an error ahead of it", Rings.load(ring, "0:0;g:8;f:0;"), ERROR - 6);
        Check.due("a channel as the 17th", Rings.load(ring, "0:0;g:1; 3:0;"), ERROR - 10);
        Check.due("a wrong channel as the 17th", Rings.load(ring, "0:0;g:1; 8:0;"), ERROR - 9);
        Check.due("still 14", ring.count(1), 14);
        Check.due("two more", Rings.load(ring, "0:0;g:1;"), 2);
        Check.due("full", ring.count(1), 16);
        Check.due("sources go in still", Rings.load(ring, "0=5;0r5;"), 2);
    }

    private static void errorsChangeNothing() {
        ScanRing ring = new ScanRing();
        Check.due("an error at last", Rings.load(ring, "0=5;0r6;g:7;1=2?"), ERROR - 15);
        due(ring, 0, 0, 0, 0, 0, 0);
        Check.due("no entry", ring.count(1), 0);
        Check.due("nothing recorded", ring.count(8), 0);
        Check.due("the text is kept", ring.count(9), 16);
        Check.due("the same again", ring.load(), ERROR - 15);
    }

    private static void fullText() {
        String items = "7=4095,4095/200;".repeat(8) + "0=4095+64; ";
        Check.due("139 characters", Rings.load(new ScanRing(), items), 9);
        Check.due("140 characters", Rings.load(new ScanRing(), items + " "), 9);
        Check.due("140 characters that want one more", Rings.load(new ScanRing(), "0=1;".repeat(34) + "0r31"), ERROR - 140);
        Check.due("35 items", Rings.load(new ScanRing(), "0r1;".repeat(35)), 35);
        Check.due("a number of 138 digits", Rings.load(new ScanRing(), "0=" + "9".repeat(138)), ERROR - 2);
    }
}
