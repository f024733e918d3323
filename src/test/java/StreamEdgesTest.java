/** THE STREAM, sentence by sentence: at each boundary that the document names, and on either side. */
public final class StreamEdgesTest {
    private static final int ESC = 27;

    public static void main(String[] args) {
        everyByteBehindEsc();
        everyFamily();
        everyByteWithinSequence();
        brokenFieldIsNone();
        fieldsBeforeBrokenOneAreDone();
        escWithinBeginsAnother();
        secondEscBeginsAnew();
        wholePartAtMost32767();
        firstFourDigitsBehindPoint();
        negativeAndSigned();
        partsOfValueMissing();
        onlyEndWHasData();
        dataOfNone();
        dataOfOneAndTwo();
        dataOfMost();
        dataWhateverTheyAre();
        textWhateverTheyAre();
        textOfNone();
        charactersFrom32();
        Checks.finish();
    }

    private static boolean isBetween(int b, int least, int most) {
        return b >= least && b <= most;
    }

    /**
     * "ESC and a byte 48 .. 126 is a SHORT sequence. ESC and a byte 33 .. 47, the FAMILY. ESC and any
     * other byte (0 .. 32, 127 and more): both are thrown away".
     */
    private static void everyByteBehindEsc() {
        for (int b = 0; b < 256; b++) {
            String what = "ESC and " + b;
            PageDesk desk = new PageDesk();
            Checks.raw(desk, ESC, b);
            boolean family = isBetween(b, 33, 47);
            Checks.looks(what, desk, Checks.UNDER_WAY, family || b == ESC ? 1 : 0);
            Checks.looks(what, desk, Checks.BYTES, 2);
            if (!family && b != ESC && b != '=') {
                Checks.alike(what, desk, new PageDesk());
            }
            Checks.raw(desk, 'Z');
            Checks.looks(what + ", then Z", desk, Checks.OTHERS, family ? 1 : 0);
            Checks.looks(what + ", then Z", desk, Checks.GLYPHS, family || b == ESC ? 0 : 1);
            Checks.looks(what + ", then Z", desk, Checks.UNDER_WAY, 0);
        }
    }

    private static void everyFamily() {
        for (int b = 33; b <= 47; b++) {
            PageDesk desk = new PageDesk();
            Checks.raw(desk, ESC, b, 'q', '7', 'Q');
            Checks.otherIs("family " + b, desk, b, 'q', 70000, 'Q', 0, 0, 0);
        }
    }

    /**
     * Each byte behind the start of a sequence: the GROUP "if it is one of 96 .. 126", "the END is a
     * byte 96 .. 126, after which another field follows, or 64 .. 94, which is the sequence's last
     * one", a part of the VALUE, "any other byte within ends the sequence", or ESC.
     */
    private static void everyByteWithinSequence() {
        everyByteBehind("~(", true, "0123456789+-.");
        everyByteBehind("~(s", false, "0123456789+-.");
        everyByteBehind("~(5x", false, "0123456789+-.");
        everyByteBehind("~(s2.5x", false, "0123456789+-.");
        everyByteBehind("~(s+", false, "0123456789.");
        everyByteBehind("~(s-", false, "0123456789.");
        everyByteBehind("~(s5", false, "0123456789.");
        everyByteBehind("~(s-5", false, "0123456789.");
        everyByteBehind("~(s.", false, "0123456789");
        everyByteBehind("~(s5.", false, "0123456789");
        everyByteBehind("~(s5.123456", false, "0123456789");
        everyByteBehind("~(5", false, "0123456789.");
    }

    private static void everyByteBehind(String start, boolean groupCanCome, String partsOfValue) {
        for (int b = 0; b < 256; b++) {
            String what = start + " and " + b;
            PageDesk desk = Checks.fed(start);
            int others = desk.look(Checks.OTHERS);
            Checks.raw(desk, b);
            boolean low = isBetween(b, 96, 126);
            boolean last = isBetween(b, 64, 94);
            boolean ends = last || low && !groupCanCome;
            boolean goesOn = low || b == ESC || partsOfValue.indexOf(b) >= 0;
            Checks.looks(what, desk, Checks.OTHERS, others + (ends ? 1 : 0));
            Checks.looks(what, desk, Checks.GLYPHS, 0);
            Checks.cursor(what, desk, 0, 4500);
            if (ends && start.indexOf('x') < 0) {
                Checks.same(what + ", END", desk.other(3), last ? b : b - 32);
            }
            // A sequence's last field may have DATA, which is under way, too.
            boolean data = ends && (b == 'W' || b == 'w') && start.contains("5");
            boolean someData = data && !start.contains("-") && !start.endsWith("x");
            Checks.looks(what, desk, Checks.UNDER_WAY, goesOn || someData ? 1 : 0);
            if (!someData) {
                Checks.raw(desk, 'Q');
                int more = b == ESC ? 0 : goesOn ? 1 : 0;
                Checks.looks(what + ", then Q", desk, Checks.OTHERS, others + (ends ? 1 : 0) + more);
                Checks.looks(what + ", then Q", desk, Checks.GLYPHS, goesOn ? 0 : 1);
            }
        }
    }

    /** "Any other byte within ends the sequence, is thrown away, and what was in the field that it ends is none" */
    private static void brokenFieldIsNone() {
        int[] others = {0, 8, 10, 12, 13, 14, 26, 28, 31, 32, 33, 42, 44, 47, 58, 63, 95, 127, 128, 255};
        for (int b : others) {
            for (String start : new String[] {"~&", "~&a", "~&a-", "~&a5", "~&a-5.", "~&a-5.25"}) {
                String what = start + " broken by " + b;
                PageDesk desk = Checks.fed(start);
                Checks.raw(desk, b);
                Checks.alike(what, desk, new PageDesk());
                Checks.feed(desk, "~&a2C");
                Checks.cursor(what + ", nothing is left of it", desk, 1440, 4500);
            }
        }
    }

    /** "the fields before it have been done" */
    private static void fieldsBeforeBrokenOneAreDone() {
        PageDesk want = Checks.fed("~&a3c2r4L");
        Checks.alike("a field broken", Checks.fed("~&a3c2r4l9/"), want);
        Checks.alike("a field broken ahead of its value", Checks.fed("~&a3c2r4l "), want);
        Checks.alike("a field broken behind its point", Checks.fed("~&a3c2r4l9.."), want);
        Checks.feed(want, "7C");
        Checks.alike("what follows are characters", Checks.fed("~&a3c2r4l9_7C"), want);
        PageDesk desk = Checks.fed("~*b1w!9!Q");
        Checks.otherIs("! as DATA, then as what breaks", desk, '*', 'b', 10000, 'W', 0, 1, 0);
        Checks.looks("handed on, and no more", desk, Checks.OTHERS, 1);
        Checks.glyphIs("Q behind it", desk, 0, 0, 4500, 'Q', 0);
    }

    /** "ESC within ends it, too, and begins another one." */
    private static void escWithinBeginsAnother() {
        String sequence = "~*b-12.34x5.6y+7Z";
        for (int cut = 1; cut < sequence.length(); cut++) {
            String start = sequence.substring(0, cut);
            PageDesk desk = Checks.fed(start);
            int before = desk.look(Checks.OTHERS);
            Checks.feed(desk, "~(3Q");
            Checks.looks(start + " ended by ESC", desk, Checks.OTHERS, before + 1);
            for (int i = 0; i < before; i++) {
                Checks.yes("take", desk.take());
            }
            Checks.otherIs(start + " ended by ESC", desk, '(', 0, 30000, 'Q', 0, 0, 0);
            Checks.looks(start + " ended by ESC", desk, Checks.UNDER_WAY, 0);
        }
    }

    /** "but a second ESC begins anew" */
    private static void secondEscBeginsAnew() {
        for (int count = 1; count <= 9; count++) {
            PageDesk desk = new PageDesk();
            for (int i = 0; i < count; i++) {
                Checks.raw(desk, ESC);
                Checks.looks(count + " times ESC", desk, Checks.UNDER_WAY, 1);
            }
            Checks.feed(desk, "&a3C");
            Checks.cursor(count + " times ESC", desk, 2160, 4500);
            Checks.looks(count + " times ESC", desk, Checks.GLYPHS, 0);
        }
    }

    private static void value(String text, int value, int signed) {
        Checks.otherIs("VALUE " + text, Checks.fed("~(s" + text + "Q"), '(', 's', value, 'Q', signed, 0, 0);
    }

    /** "of its whole part at most 32767 (more is 32767)" */
    private static void wholePartAtMost32767() {
        String[] within = {"0", "1", "9", "10", "3276", "9999", "10000", "32766", "32767", "0000000000032767"};
        for (String text : within) {
            value(text, Integer.parseInt(text) * 10000, 0);
            value("-" + text, Integer.parseInt(text) * -10000, 1);
        }
        String[] above = {"32768", "32769", "32770", "65535", "65536", "65537", "99999", "100000", "327670",
            "2147483647", "2147483648", "4294967295", "4294967296", "4294967297", "9223372036854775808",
            "18446744073709551616", "18446744073709551617", "99999999999999999999999999999999999999"};
        for (String text : above) {
            value(text, 327670000, 0);
            value("+" + text, 327670000, 1);
            value("-" + text, -327670000, 1);
            value(text + ".5", 327675000, 0);
            value("-" + text + ".99999", -327679999, 1);
        }
    }

    /** "of the digits behind the point the first four" */
    private static void firstFourDigitsBehindPoint() {
        String[] texts = {".1", ".12", ".123", ".1234", ".12345", ".123456789", ".12349", ".0001", ".00001",
            ".00009", ".9999", ".99999", ".10", ".1000", ".10000", ".0", ".00000000000000000000000000000001"};
        int[] values = {1000, 1200, 1230, 1234, 1234, 1234, 1234, 1, 0, 0, 9999, 9999, 1000, 1000, 1000, 0, 0};
        for (int i = 0; i < texts.length; i++) {
            value(texts[i], values[i], 0);
            value("7" + texts[i], 70000 + values[i], 0);
            value("-7" + texts[i], -70000 - values[i], 1);
        }
    }

    /** "negative if it has a -; SIGNED if it has a + or -" */
    private static void negativeAndSigned() {
        value("5", 50000, 0);
        value("+5", 50000, 1);
        value("-5", -50000, 1);
        value("0", 0, 0);
        value("+0", 0, 1);
        value("-0", 0, 1);
        value("-.0001", -1, 1);
        value("+.0001", 1, 1);
        // The six that a sign makes go from where the cursor is; +0 and -0 are signed, too.
        for (String zero : new String[] {"+0", "-0", "+", "-", "+.", "-.00009"}) {
            PageDesk desk = new PageDesk();
            desk.move(999, 888);
            Checks.feed(desk, "~&a" + zero + "c" + zero + "h" + zero + "r" + zero + "V");
            Checks.feed(desk, "~*p" + zero + "x" + zero + "Y");
            Checks.cursor("signed " + zero, desk, 999, 888);
        }
    }

    /** "a VALUE is (each perhaps missing) a + or -, digits, and a point with digits" */
    private static void partsOfValueMissing() {
        value("", 0, 0);
        value("+", 0, 1);
        value("-", 0, 1);
        value("3", 30000, 0);
        value(".25", 2500, 0);
        value("+3", 30000, 1);
        value("+.25", 2500, 1);
        value("-.25", -2500, 1);
        value("3.25", 32500, 0);
        value("-3.25", -32500, 1);
        value("3.", 30000, 0);
        value(".", 0, 0);
    }

    /** "A COMMAND with END W has DATA" */
    private static void onlyEndWHasData() {
        for (int end = 64; end <= 94; end++) {
            PageDesk desk = Checks.fed("~(s2");
            Checks.raw(desk, end);
            Checks.looks("END " + end, desk, Checks.UNDER_WAY, end == 'W' ? 1 : 0);
            Checks.otherIs("END " + end, desk, '(', 's', 20000, end, 0, 0, end == 'W' ? 2 : 0);
        }
        for (String text : new String[] {"~(p2X", "~&q2X", "~&2X", "~*p2X", "~&l2X", "~&p2Y", "~&p2V"}) {
            Checks.looks(text + " has none", Checks.fed(text), Checks.UNDER_WAY, 0);
        }
        Checks.looks("& p X has", Checks.fed("~&p2X"), Checks.UNDER_WAY, 1);
        // Groups whose other commands the desk knows itself
        for (String start : new String[] {"&l", "&k", "&a", "&s", "&f", "&p", "*p", "&", "*"}) {
            PageDesk desk = Checks.fed("~" + start + "2W\nxy");
            int group = start.length() > 1 ? start.charAt(1) : 0;
            Checks.otherIs(start + " W", desk, start.charAt(0), group, 20000, 'W', 0, 2, 0);
            Checks.same(start + " W, DATA", desk.data(0), 0x0A78000000000000L);
            Checks.glyphIs(start + " W, behind it", desk, 0, 0, 4500, 'y', 0);
        }
    }

    /** "as many bytes behind it as the whole part of its VALUE says (none if it is negative)" */
    private static void dataOfNone() {
        for (String none : new String[] {"", "0", "+0", "-0", ".9999", "+.9", "-.9", "-1", "-1.5", "-32767",
                "-99999"}) {
            PageDesk desk = Checks.fed("~*b" + none + "W");
            Checks.looks("W of " + none, desk, Checks.UNDER_WAY, 0);
            Checks.same("W of " + none + " to come", desk.other(6), 0);
            Checks.feed(desk, "A");
            Checks.looks("W of " + none, desk, Checks.GLYPHS, 1);
            Checks.same("W of " + none + " that came", desk.other(5), 0);
            Checks.yes("W of " + none + " can be taken", desk.take());
            desk = Checks.fed("~*b" + none + "w5Q");
            Checks.looks("w of " + none + ", another field follows", desk, Checks.OTHERS, 2);
        }
    }

    private static void dataOfOneAndTwo() {
        for (String one : new String[] {"1", "1.9999", "+1", "01"}) {
            PageDesk desk = Checks.fed("~*b" + one + "W");
            Checks.looks("W of " + one, desk, Checks.UNDER_WAY, 1);
            Checks.feed(desk, "A");
            Checks.looks("W of " + one, desk, Checks.UNDER_WAY, 0);
            Checks.feed(desk, "B");
            Checks.looks("W of " + one, desk, Checks.GLYPHS, 1);
            Checks.same("W of " + one, desk.data(0), 0x41L << 56);
        }
        PageDesk desk = Checks.fed("~*b2w");
        for (int come = 0; come <= 2; come++) {
            Checks.looks("w of 2, the sequence goes on", desk, Checks.UNDER_WAY, 1);
            Checks.same("w of 2, come", desk.other(5), come);
            Checks.same("w of 2, to come", desk.other(6), 2 - come);
            Checks.feed(desk, come < 2 ? "Q" : "");
        }
        Checks.looks("Q was DATA", desk, Checks.OTHERS, 1);
        Checks.feed(desk, "Q");
        Checks.looks("Q is an END", desk, Checks.OTHERS, 2);
    }

    private static void dataOfMost() {
        // Beyond the 512 calls of the document, but it must not go wrong inside.
        PageDesk desk = Checks.fed("~*b32768W");
        Checks.same("at most 32767", desk.other(6), 32767);
        for (int i = 0; i < 4095; i++) {
            desk.feed(0x4141414141414141L, 8);
        }
        Checks.same("7 are left", desk.other(6), 7);
        desk.feed(0x41414141414141L, 6);
        Checks.looks("1 is left", desk, Checks.UNDER_WAY, 1);
        Checks.no("1 is left", desk.take());
        desk.feed(0x41, 1);
        Checks.looks("none is left", desk, Checks.UNDER_WAY, 0);
        Checks.same("what is there", desk.other(5), 4096);
        Checks.yes("none is left", desk.take());
    }

    /** "whatever they are" */
    private static void dataWhateverTheyAre() {
        for (int b = 0; b < 256; b++) {
            PageDesk desk = Checks.fed("~*b1W");
            Checks.raw(desk, b);
            Checks.same("DATA " + b, desk.data(0), (long) b << 56);
            Checks.otherIs("DATA " + b, desk, '*', 'b', 10000, 'W', 0, 1, 0);
            Checks.yes("take", desk.take());
            Checks.alike("DATA " + b + " does nothing else", desk, new PageDesk());
        }
    }

    /** "DATA of & p X are characters, whatever they are (also those below 32)." */
    private static void textWhateverTheyAre() {
        for (int b = 0; b < 256; b++) {
            PageDesk desk = Checks.fed("~&p1X");
            Checks.raw(desk, b);
            String what = "DATA of & p X " + b;
            Checks.looks(what, desk, Checks.GLYPHS, b == 32 ? 0 : 1);
            Checks.cursor(what, desk, 720, 4500);
            Checks.looks(what, desk, Checks.UNDER_WAY, 0);
            Checks.looks(what, desk, Checks.OTHERS, 0);
            if (b != 32) {
                Checks.glyphIs(what, desk, 0, 0, 4500, b, 0);
            }
        }
    }

    private static void textOfNone() {
        for (String none : new String[] {"", "0", "-0", ".9", "-1", "-2.5", "-32768"}) {
            PageDesk desk = Checks.fed("~&p" + none + "X");
            Checks.alike("& p X of " + none, desk, new PageDesk());
            Checks.feed(desk, "\n");
            Checks.cursor("& p X of " + none + ", then a control code", desk, 0, 5700);
        }
        PageDesk desk = Checks.fed("~&p2.9X\n\n\n");
        Checks.looks("& p X of 2.9", desk, Checks.GLYPHS, 2);
        Checks.looks("& p X of 2.9", desk, Checks.Y, 5700);
    }

    /** "All other bytes are characters, if they are 32 or more, and control codes." */
    private static void charactersFrom32() {
        for (int b = 0; b < 256; b++) {
            PageDesk desk = new PageDesk();
            Checks.raw(desk, b);
            Checks.looks("byte " + b, desk, Checks.GLYPHS, b > 32 ? 1 : 0);
            if (b >= 32) {
                Checks.cursor("byte " + b, desk, 720, 4500);
            }
            if (b > 32) {
                Checks.glyphIs("byte " + b, desk, 0, 0, 4500, b, 0);
            }
        }
    }
}
