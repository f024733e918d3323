/** How the stream is parted, and what is handed on: promises 2, 10, 11 and 12. */
public final class StreamTest {
    public static void main(String[] args) {
        feedTakesTheLowestBytes();
        shortSequences();
        escapeAndBadBytes();
        badBytesInFields();
        groups();
        nothingIsLeftOfTheFieldBefore();
        ends();
        values();
        dataOfW();
        dataInTheMiddle();
        dataOfText();
        underWay();
        otherAnswers();
        dataAnswers();
        taking();
        roomForOthers();
        dataStoreGoesRound();
        knownCommandsAreNotHandedOn();
        unknownCommandsAreHandedOn();
        Checks.finish();
    }

    private static void feedTakesTheLowestBytes() {
        PageDesk desk = new PageDesk();
        Checks.yes("feed one of many", desk.feed(0x4142434445464748L, 1));
        Checks.glyphIs("lowest byte", desk, 0, 0, 4500, 'H', 0);
        Checks.yes("feed two", desk.feed(0x4142434445464748L, 2));
        Checks.glyphIs("highest first", desk, 1, 720, 4500, 'G', 0);
        Checks.glyphIs("then the lowest", desk, 2, 1440, 4500, 'H', 0);
        Checks.yes("feed eight with the sign bit", desk.feed(0xFF00000000000080L, 8));
        Checks.glyphIs("byte 255", desk, 3, 2160, 4500, 255, 0);
        Checks.glyphIs("byte 128", desk, 4, 2880, 4500, 128, 0);
        Checks.looks("bytes", desk, Checks.BYTES, 11);
        for (int n : new int[] {0, 9, -1, Integer.MIN_VALUE, Integer.MAX_VALUE}) {
            Checks.no("feed of " + n, desk.feed(0x41L, n));
        }
        Checks.looks("bytes after wrong n", desk, Checks.BYTES, 11);
        Checks.looks("glyphs after wrong n", desk, Checks.GLYPHS, 5);
    }

    private static void shortSequences() {
        PageDesk desk = Checks.fed("~0~z~@~~~^~_~`A");
        // In Checks '~' is ESC: "~~~^" is three of them, of which the last one begins "ESC ^".
        Checks.looks("short ones do nothing", desk, Checks.GLYPHS, 1);
        Checks.glyphIs("then A", desk, 0, 0, 4500, 'A', 0);
        desk = new PageDesk();
        desk.feed(0x1B7E42L, 3);
        Checks.glyphIs("ESC 126 is short", desk, 0, 0, 4500, 'B', 0);
    }

    private static void escapeAndBadBytes() {
        for (int bad : new int[] {0, 10, 12, 13, 32, 127, 128, 255}) {
            PageDesk desk = new PageDesk();
            desk.feed(0x1B0041L | (long) bad << 8, 3);
            String what = "ESC and " + bad;
            Checks.cursor(what, desk, 720, 4500);
            Checks.looks(what, desk, Checks.GLYPHS, 1);
            Checks.glyphIs(what, desk, 0, 0, 4500, 'A', 0);
            Checks.looks(what, desk, Checks.PAGES, 0);
        }
        Checks.looks("ESC ESC E is reset", Checks.fed("A~~E"), Checks.PAGES, 1);
        Checks.looks("ESC within begins another", Checks.fed("A~&a5~E"), Checks.PAGES, 1);
        Checks.looks("ESC behind family", Checks.fed("A~&~E"), Checks.PAGES, 1);
        Checks.looks("ESC behind group", Checks.fed("A~&l~E"), Checks.PAGES, 1);
        Checks.looks("ESC within makes the field none", Checks.fed("~&a5~&a0R"), Checks.X, 0);
    }

    private static void badBytesInFields() {
        String[] bads = {"_", "\u007f", "\u0080", "\u00ff", " ", "\n", "\0", "!", "/", ":", "?"};
        for (String bad : bads) {
            PageDesk desk = Checks.fed("~&a3c5" + bad + "7C");
            String what = "bad byte " + (int) bad.charAt(0);
            Checks.looks(what, desk, Checks.GLYPHS, 2);
            Checks.glyphIs(what + ": the field before was done", desk, 0, 2160, 4500, '7', 0);
            Checks.glyphIs(what, desk, 1, 2880, 4500, 'C', 0);
            Checks.looks(what, desk, Checks.UNDER_WAY, 0);
            Checks.looks(what, desk, Checks.OTHERS, 0);
            desk = Checks.fed("~&" + bad + "A");
            Checks.glyphIs(what + " behind the family", desk, 0, 0, 4500, 'A', 0);
        }
        for (String value : new String[] {"1+", "1-", "+-", "++", "1..", "1.2.", ".+", "1.5-", ".."}) {
            PageDesk desk = Checks.fed("~&a" + value + "A");
            Checks.glyphIs("ended by the last of " + value, desk, 0, 0, 4500, 'A', 0);
            Checks.looks("ended by the last of " + value, desk, Checks.OTHERS, 0);
        }
        Checks.glyphIs("bad byte behind the group", Checks.fed("~&a/A"), 0, 0, 4500, 'A', 0);
    }

    private static void groups() {
        Checks.otherIs("no group, no value", Checks.fed("~(X"), '(', 0, 0, 'X', 0, 0, 0);
        Checks.otherIs("no group", Checks.fed("~)8U"), ')', 0, 80000, 'U', 0, 0, 0);
        Checks.otherIs("group `", Checks.fed("~!`1A"), '!', 96, 10000, 'A', 0, 0, 0);
        PageDesk desk = new PageDesk();
        desk.feed(0x1B2F7E5EL, 4);
        Checks.otherIs("family /, group 126, end 94", desk, '/', 126, 0, 94, 0, 0, 0);
        desk = Checks.fed("~(3x4Y");
        Checks.otherIs("no group, first field", desk, '(', 0, 30000, 'X', 0, 0, 0);
        Checks.yes("take", desk.take());
        Checks.otherIs("no group, second field", desk, '(', 0, 40000, 'Y', 0, 0, 0);
        desk = Checks.fed("~(aaA");
        Checks.looks("group, then an end", desk, Checks.OTHERS, 2);
        Checks.otherIs("group, then an end", desk, '(', 'a', 0, 'A', 0, 0, 0);
    }

    private static void nothingIsLeftOfTheFieldBefore() {
        PageDesk desk = Checks.fed("~(s+7.25x3Q");
        Checks.yes("take", desk.take());
        Checks.otherIs("no plus, no fraction", desk, '(', 's', 30000, 'Q', 0, 0, 0);
        desk = Checks.fed("~(s-7.25x3Q");
        Checks.yes("take", desk.take());
        Checks.otherIs("no minus", desk, '(', 's', 30000, 'Q', 0, 0, 0);
        Checks.otherIs("no group", Checks.fed("~&l1X~(3X"), '(', 0, 30000, 'X', 0, 0, 0);
        Checks.otherIs("none of a broken one", Checks.fed("~(s-7.2_~(3X"), '(', 0, 30000, 'X', 0, 0, 0);
    }

    private static void ends() {
        Checks.otherIs("end @", Checks.fed("~(1@"), '(', 0, 10000, '@', 0, 0, 0);
        Checks.otherIs("end `", Checks.fed("~(1`"), '(', 0, 10000, '@', 0, 0, 0);
        PageDesk desk = new PageDesk();
        desk.feed(0x1B28317EL, 4);
        Checks.otherIs("end 126", desk, '(', 0, 10000, 94, 0, 0, 0);
        Checks.looks("end 126 goes on", desk, Checks.UNDER_WAY, 1);
        Checks.looks("end ^ does not", Checks.fed("~(1^"), Checks.UNDER_WAY, 0);
    }

    private static void value(String text, int value, int signed) {
        Checks.otherIs("value " + text, Checks.fed("~(s" + text + "Q"), '(', 's', value, 'Q', signed, 0, 0);
    }

    private static void values() {
        value("", 0, 0);
        value("0", 0, 0);
        value("00012", 120000, 0);
        value("+", 0, 1);
        value("-", 0, 1);
        value("-0", 0, 1);
        value("+7", 70000, 1);
        value("-7", -70000, 1);
        value(".5", 5000, 0);
        value("-.5", -5000, 1);
        value(".", 0, 0);
        value("3.", 30000, 0);
        value("1.2345", 12345, 0);
        value("1.23459", 12345, 0);
        value("1.00009", 10000, 0);
        value("1.0001", 10001, 0);
        value("1.05", 10500, 0);
        value("32767", 327670000, 0);
        value("32768", 327670000, 0);
        value("32767.9999", 327679999, 0);
        value("40000.25", 327672500, 0);
        value("-99999999999999999999.5", -327675000, 1);
        value("0.00000000000000000001", 0, 0);
    }

    private static void dataOfW() {
        PageDesk desk = Checks.fed("~*b3W~E\nA");
        Checks.otherIs("data whatever they are", desk, '*', 'b', 30000, 'W', 0, 3, 0);
        Checks.same("data", desk.data(0), 0x1B450A0000000000L);
        Checks.looks("behind the data a character", desk, Checks.GLYPHS, 1);
        Checks.glyphIs("behind the data a character", desk, 0, 0, 4500, 'A', 0);
        desk = Checks.fed("~*b2.9Wxyz");
        Checks.otherIs("the whole part counts", desk, '*', 'b', 29000, 'W', 0, 2, 0);
        Checks.looks("the whole part counts", desk, Checks.GLYPHS, 1);
        desk = Checks.fed("~*b-3Wxyz");
        Checks.otherIs("none if negative", desk, '*', 'b', -30000, 'W', 1, 0, 0);
        Checks.looks("none if negative", desk, Checks.GLYPHS, 3);
        desk = Checks.fed("~*b+2Wxyz");
        Checks.otherIs("with a plus", desk, '*', 'b', 20000, 'W', 1, 2, 0);
        desk = Checks.fed("~(2Wxyz");
        Checks.otherIs("without a group", desk, '(', 0, 20000, 'W', 0, 2, 0);
        desk = Checks.fed("~&p2Wxyz");
        Checks.otherIs("& p W is handed on", desk, '&', 'p', 20000, 'W', 0, 2, 0);
        desk = Checks.fed("~*bWx");
        Checks.otherIs("no value, no data", desk, '*', 'b', 0, 'W', 0, 0, 0);
        Checks.looks("no value, no data", desk, Checks.GLYPHS, 1);
        desk = Checks.fed("~*b99999W");
        Checks.otherIs("much data", desk, '*', 'b', 327670000, 'W', 0, 0, 32767);
    }

    private static void dataInTheMiddle() {
        PageDesk desk = Checks.fed("~*b2wAB7y1wC2ZD");
        Checks.looks("four commands", desk, Checks.OTHERS, 4);
        Checks.otherIs("first", desk, '*', 'b', 20000, 'W', 0, 2, 0);
        Checks.same("first's data", desk.data(0), 0x4142000000000000L);
        Checks.yes("take first", desk.take());
        Checks.otherIs("second", desk, '*', 'b', 70000, 'Y', 0, 0, 0);
        Checks.same("second's data", desk.data(0), 0);
        Checks.yes("take second", desk.take());
        Checks.otherIs("third", desk, '*', 'b', 10000, 'W', 0, 1, 0);
        Checks.same("third's data", desk.data(0), 0x4300000000000000L);
        Checks.yes("take third", desk.take());
        Checks.otherIs("fourth", desk, '*', 'b', 20000, 'Z', 0, 0, 0);
        Checks.glyphIs("behind it", desk, 0, 0, 4500, 'D', 0);
    }

    private static void dataOfText() {
        PageDesk desk = Checks.fed("~&p4X\n~ zQ");
        Checks.looks("not handed on", desk, Checks.OTHERS, 0);
        Checks.looks("32 is no glyph there either", desk, Checks.GLYPHS, 4);
        Checks.glyphIs("10", desk, 0, 0, 4500, 10, 0);
        Checks.glyphIs("27", desk, 1, 720, 4500, 27, 0);
        Checks.glyphIs("z", desk, 2, 2160, 4500, 'z', 0);
        Checks.glyphIs("Q", desk, 3, 2880, 4500, 'Q', 0);
        desk = Checks.fed("~&p1x\n1x\r5YA");
        Checks.looks("lower x goes on", desk, Checks.GLYPHS, 3);
        Checks.glyphIs("13", desk, 1, 720, 4500, 13, 0);
        Checks.otherIs("a field behind the text", desk, '&', 'p', 50000, 'Y', 0, 0, 0);
        desk = Checks.fed("~&p-2X\nA");
        Checks.glyphIs("negative: no text", desk, 0, 0, 5700, 'A', 0);
        desk = new PageDesk();
        desk.advance(1, 10, 100);
        Checks.feed(desk, "\u000e~&p2X\n\n");
        Checks.glyphIs("its own step", desk, 1, 100, 4500, 10, 1);
    }

    private static void underWay() {
        PageDesk desk = new PageDesk();
        String sequence = "~&l1x2X~*b2wAB1WCD~&p1X";
        for (int i = 0; i < sequence.length(); i++) {
            Checks.feed(desk, sequence.substring(i, i + 1));
            String done = sequence.substring(0, i + 1);
            boolean over = done.endsWith("2X") || done.endsWith("1WC") || done.endsWith("CD");
            Checks.looks("under way behind " + done, desk, Checks.UNDER_WAY, over ? 0 : 1);
        }
        Checks.feed(desk, "A");
        Checks.looks("text has come", desk, Checks.UNDER_WAY, 0);
        Checks.looks("bytes", desk, Checks.BYTES, sequence.length() + 1);
    }

    private static void otherAnswers() {
        PageDesk desk = new PageDesk();
        for (int w : new int[] {-1, 0, 6, 7}) {
            Checks.refused("other of none", IllegalStateException.class, () -> desk.other(w));
        }
        Checks.feed(desk, "~*b-12.5x+3Wab");
        Checks.otherIs("the first", desk, '*', 'b', -125000, 'X', 1, 0, 0);
        for (int w : new int[] {-1, 7, Integer.MIN_VALUE, Integer.MAX_VALUE}) {
            Checks.outside("other(" + w + ")", () -> desk.other(w));
        }
        Checks.yes("take", desk.take());
        Checks.otherIs("the second", desk, '*', 'b', 30000, 'W', 1, 2, 1);
    }

    private static void dataAnswers() {
        PageDesk desk = new PageDesk();
        Checks.refused("data of none", IllegalStateException.class, () -> desk.data(0));
        Checks.feed(desk, "~*b10WABCDEFGH\u00ff");
        Checks.same("data(0)", desk.data(0), 0x4142434445464748L);
        Checks.same("data(1)", desk.data(1), 0xFF00000000000000L);
        int[] none = {2, 511, 512, 1 << 29, (1 << 29) + 1, -1, Integer.MIN_VALUE, Integer.MAX_VALUE};
        for (int k : none) {
            Checks.same("data(" + k + ")", desk.data(k), 0);
        }
        Checks.feed(desk, "I");
        Checks.same("data(1) then", desk.data(1), 0xFF49000000000000L);
        Checks.yes("take", desk.take());
        Checks.refused("data of none again", IllegalStateException.class, () -> desk.data(0));
    }

    private static void taking() {
        PageDesk desk = new PageDesk();
        Checks.no("take of none", desk.take());
        Checks.feed(desk, "~*b2W");
        Checks.no("take ahead of data", desk.take());
        Checks.feed(desk, "A");
        Checks.no("take amid data", desk.take());
        Checks.otherIs("left as it was", desk, '*', 'b', 20000, 'W', 0, 1, 1);
        Checks.feed(desk, "B");
        Checks.looks("still there", desk, Checks.OTHERS, 1);
        Checks.yes("take", desk.take());
        Checks.looks("taken", desk, Checks.OTHERS, 0);
        Checks.no("take twice", desk.take());
        Checks.feed(desk, "~*b1Xx~E");
        Checks.looks("a reset leaves them", desk, Checks.OTHERS, 1);
    }

    private static void roomForOthers() {
        PageDesk desk = new PageDesk();
        for (int i = 0; i < 16; i++) {
            Checks.feed(desk, "~*c" + i + "Q");
        }
        Checks.looks("sixteen", desk, Checks.OTHERS, 16);
        Checks.feed(desk, "~*b3WA");
        Checks.looks("the next is lost", desk, Checks.OTHERS, 16);
        Checks.looks("its data is under way", desk, Checks.UNDER_WAY, 1);
        Checks.yes("take makes room", desk.take());
        Checks.feed(desk, "BCD");
        Checks.looks("its data is lost with it", desk, Checks.OTHERS, 15);
        Checks.looks("but is no text", desk, Checks.GLYPHS, 1);
        Checks.glyphIs("behind it", desk, 0, 0, 4500, 'D', 0);
        Checks.feed(desk, "~*b2Wyz~*c99Q");
        Checks.looks("room for one", desk, Checks.OTHERS, 16);
        for (int i = 1; i < 16; i++) {
            Checks.otherIs("in their order", desk, '*', 'c', i * 10000, 'Q', 0, 0, 0);
            Checks.yes("take " + i, desk.take());
        }
        Checks.otherIs("the last one", desk, '*', 'b', 20000, 'W', 0, 2, 0);
        Checks.same("with its data", desk.data(0), 0x797A000000000000L);
        Checks.yes("take the last one", desk.take());
        Checks.no("none left", desk.take());
        for (int i = 0; i < 16; i++) {
            Checks.feed(desk, "~*b1Wy");
            Checks.yes("take one with data", desk.take());
        }
        Checks.feed(desk, "~*b1X");
        Checks.otherIs("no data left of others", desk, '*', 'b', 10000, 'X', 0, 0, 0);
        Checks.same("no data left of others", desk.data(0), 0);
    }

    private static void dataStoreGoesRound() {
        // Beyond the 512 calls of the document, but it must not go wrong inside.
        PageDesk desk = new PageDesk();
        StringBuilder thousand = new StringBuilder();
        for (int i = 0; i < 1000; i++) {
            thousand.append((char) ('a' + i % 26));
        }
        for (int i = 0; i < 4; i++) {
            Checks.feed(desk, "~*b1000W" + thousand);
        }
        Checks.yes("take one", desk.take());
        Checks.feed(desk, "~*b1200W" + thousand + thousand.substring(0, 200));
        for (int i = 0; i < 3; i++) {
            Checks.otherIs("the others", desk, '*', 'b', 10000000, 'W', 0, 1000, 0);
            Checks.same("last eight", desk.data(124), 0x65666768696A6B6CL);
            Checks.yes("take", desk.take());
        }
        Checks.otherIs("data beyond is lost", desk, '*', 'b', 12000000, 'W', 0, 1096, 0);
        Checks.same("round the end", desk.data(12), 0x737475767778797AL);
        Checks.same("last that had room", desk.data(136), 0x6B6C6D6E6F707172L);
        Checks.same("none behind", desk.data(137), 0);
        Checks.yes("take the last", desk.take());
    }

    private static void knownCommandsAreNotHandedOn() {
        String[] known = {"&lA", "&lO", "&lX", "&lC", "&lD", "&lE", "&lF", "&lL", "&kH", "&kG", "&aL",
            "&aM", "&sC", "&fS", "&aC", "&aH", "&aR", "&aV", "*pX", "*pY", "&pX"};
        for (String name : known) {
            for (String value : new String[] {"", "1", "-1", "32767"}) {
                PageDesk desk = Checks.fed("~" + name.substring(0, 2) + value + name.substring(2));
                Checks.looks("known " + name + " of " + value, desk, Checks.OTHERS, 0);
            }
        }
    }

    private static void unknownCommandsAreHandedOn() {
        String[] unknown = {"&lB", "&lG", "&lP", "&kA", "&kL", "&aA", "&aX", "&aE", "&sA", "&sS", "&fC",
            "&fX", "&pC", "&pA", "*pC", "*pA", "*pR", "*lA", "(lA", "*aC", "&cC", "(pX", "&A", "*X"};
        for (String name : unknown) {
            int last = name.length() - 1;
            PageDesk desk = Checks.fed("~" + name.substring(0, last) + "1" + name.substring(last));
            int group = last == 2 ? name.charAt(1) : 0;
            Checks.otherIs("unknown " + name, desk, name.charAt(0), group, 10000, name.charAt(last), 0, 0, 0);
            Checks.looks("unknown " + name, desk, Checks.UNDER_WAY, 0);
        }
    }
}
