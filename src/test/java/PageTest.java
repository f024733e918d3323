/** What characters, control codes and commands do to the page: promises 1, 2, 8, 9 and 14. */
public final class PageTest {
    public static void main(String[] args) {
        newObject();
        lookOfOthers();
        sizesAndOrientations();
        paperCommandsSetDefaults();
        paperCommandsEject();
        copies();
        reset();
        characters();
        linesTooLong();
        wrapping();
        backspace();
        tab();
        lineEnds();
        lineFeeds();
        halfLineFeed();
        fonts();
        stepsOfLines();
        topAndLength();
        skip();
        stepAcross();
        margins();
        wrapCommand();
        stack();
        cursorAcross();
        cursorDown();
        pages();
        due();
        glyphs();
        overrun();
        Checks.finish();
    }

    private static final int[] FIRST = {0, 4500, 0, 57600, 3600, 72000, 720, 1200, 57600, 79200, 2, 0,
        0, 0, 0, 1, 0, 0, 0, 0, 0, 0, 0, 0, 0};

    private static void newObject() {
        PageDesk desk = new PageDesk();
        for (int which = 0; which < FIRST.length; which++) {
            Checks.looks("new", desk, which, FIRST[which]);
        }
    }

    private static void lookOfOthers() {
        PageDesk desk = Checks.fed("A");
        for (int which : new int[] {-1, 25, Integer.MIN_VALUE, Integer.MAX_VALUE}) {
            Checks.looks("no such", desk, which, PageDesk.NONE);
        }
    }

    private static void sizesAndOrientations() {
        int[][] sizes = {{1, 52200, 75600}, {2, 61200, 79200}, {3, 61200, 100800}, {6, 79200, 122400},
            {26, 59528, 84189}};
        for (int[] size : sizes) {
            for (int orientation = 0; orientation < 4; orientation++) {
                PageDesk desk = Checks.fed("~&l" + size[0] + "a" + orientation + "O");
                boolean side = orientation % 2 == 1;
                String what = "size " + size[0] + " orientation " + orientation;
                int width = side ? size[2] - 2880 : size[1] - 3600;
                int height = side ? size[1] : size[2];
                Checks.looks(what, desk, Checks.WIDTH, width);
                Checks.looks(what, desk, Checks.HEIGHT, height);
                Checks.looks(what, desk, Checks.SIZE, size[0]);
                Checks.looks(what, desk, Checks.ORIENTATION, orientation);
                Checks.looks(what, desk, Checks.TOP, 3600);
                Checks.looks(what, desk, Checks.LENGTH, height - 7200);
                Checks.looks(what, desk, Checks.LEFT, 0);
                Checks.looks(what, desk, Checks.RIGHT, width);
                Checks.cursor(what, desk, 0, 4500);
            }
        }
        for (String wrong : new String[] {"0a", "4a", "5a", "7a", "25a", "27a", "-1a", "a", "4o", "5o", "99o"}) {
            PageDesk desk = Checks.fed("A~&l" + wrong + "999B");
            Checks.looks("wrong " + wrong, desk, Checks.SIZE, 2);
            Checks.looks("wrong " + wrong, desk, Checks.ORIENTATION, 0);
            Checks.looks("wrong " + wrong, desk, Checks.PAGES, 0);
            Checks.looks("wrong " + wrong, desk, Checks.X, 720);
        }
        Checks.looks("back to size 2", Checks.fed("~&l6a2A"), Checks.SIZE, 2);
        Checks.looks("back to orientation 0", Checks.fed("~&l1o0O"), Checks.ORIENTATION, 0);
        Checks.looks("a whole part counts", Checks.fed("~&l6.9A"), Checks.SIZE, 6);
        Checks.looks("negative is 0", Checks.fed("~&l3o-2O"), Checks.ORIENTATION, 0);
        Checks.looks("with a plus", Checks.fed("~&l+3O"), Checks.ORIENTATION, 3);
    }

    private static void paperCommandsSetDefaults() {
        PageDesk desk = Checks.fed("~&l10e5f24d1L~&a5l30M~&k6h3G~&s0C~&f0S\u000e~&a7c7R~&l9x26A");
        int[] want = {0, 3825, 0, 55928, 3600, 76989, 360, 300, 55928, 84189, 26, 0, 1, 1, 3, 9, 1, 1};
        for (int which = 0; which < want.length; which++) {
            Checks.looks("defaults, the rest stays", desk, which, want[which]);
        }
        // HOME below the page's foot is brought to it.
        desk = Checks.fed("~&l6a800c1a1O");
        Checks.looks("V stays", desk, Checks.V, 120000);
        Checks.cursor("home below the page", desk, 0, 52200);
    }

    private static void paperCommandsEject() {
        PageDesk desk = Checks.fed("~&l1O");
        Checks.looks("not due", desk, Checks.PAGES, 0);
        Checks.feed(desk, "A~&l2O");
        Checks.pageIs("due: the page has the old orientation", desk, 0, 1, 2, 1, 1);
        Checks.looks("its glyphs are gone", desk, Checks.GLYPHS, 0);
        Checks.feed(desk, "BC~&l5x6A");
        Checks.pageIs("due: the page has the old size", desk, 1, 2, 2, 2, 5);
        Checks.feed(desk, "D~&l6A");
        Checks.pageIs("the same size again", desk, 2, 1, 6, 2, 5);
        Checks.cursor("defaults", desk, 0, 4500);
        Checks.feed(desk, " ~&l6A");
        Checks.looks("a space makes no page due", desk, Checks.PAGES, 3);
    }

    private static void copies() {
        String[] values = {"0", "1", "7", "99", "100", "32767", "-5", "3.9", ""};
        int[] want = {1, 1, 7, 99, 99, 99, 1, 3, 1};
        for (int i = 0; i < want.length; i++) {
            Checks.looks("copies " + values[i], Checks.fed("~&l50x" + values[i] + "X"), Checks.COPIES, want[i]);
        }
    }

    private static void reset() {
        PageDesk desk = Checks.fed("~&l26a3o9x10e5f24d1L~&a5l30M~&k6h3G~&s0C~&f0S\u000e~&a7c7R~E");
        for (int which = 0; which < 20; which++) {
            Checks.looks("reset", desk, which, FIRST[which]);
        }
        Checks.looks("not due", desk, Checks.PAGES, 0);
        desk = Checks.fed("~&l26a3o9XA~E");
        Checks.pageIs("ejected ahead of it", desk, 0, 1, 26, 3, 9);
        Checks.looks("reset then", desk, Checks.SIZE, 2);
        Checks.feed(desk, "~e");
        Checks.looks("e is none", desk, Checks.PAGES, 1);
    }

    private static void characters() {
        PageDesk desk = Checks.fed("A b\u007f\u00ff");
        Checks.looks("a space is no glyph", desk, Checks.GLYPHS, 4);
        Checks.glyphIs("A", desk, 0, 0, 4500, 'A', 0);
        Checks.glyphIs("b", desk, 1, 1440, 4500, 'b', 0);
        Checks.glyphIs("127", desk, 2, 2160, 4500, 127, 0);
        Checks.glyphIs("255", desk, 3, 2880, 4500, 255, 0);
        Checks.cursor("behind", desk, 3600, 4500);
        desk = Checks.fed("\0\1\2\3\4\5\6\7\u000b\u0010\u0011\u001a\u001c\u001f");
        for (int which = 0; which < 20; which++) {
            Checks.looks("other control codes", desk, which, FIRST[which]);
        }
    }

    private static void linesTooLong() {
        // RIGHT is 57600, which is 80 columns.
        PageDesk desk = Checks.fed("~&a79CAB");
        Checks.looks("the last column", desk, Checks.GLYPHS, 1);
        Checks.cursor("the next is lost", desk, 57600, 4500);
        desk.move(56881, 4500);
        Checks.feed(desk, "C ");
        Checks.looks("one unit too far", desk, Checks.GLYPHS, 1);
        Checks.cursor("one unit too far", desk, 56881, 4500);
        desk = Checks.fed("~&a9M~&k0H");
        desk.move(7200, 100);
        Checks.feed(desk, "A");
        Checks.looks("at RIGHT even without a step", desk, Checks.GLYPHS, 0);
        desk.move(7199, 100);
        Checks.feed(desk, "A");
        Checks.looks("left of it", desk, Checks.GLYPHS, 1);
        desk.move(7201, 100);
        Checks.feed(desk, "A");
        Checks.looks("beyond it", desk, Checks.GLYPHS, 1);
    }

    private static void wrapping() {
        PageDesk desk = Checks.fed("~&a2l3M~&s0CABC D");
        Checks.glyphIs("A", desk, 0, 1440, 4500, 'A', 0);
        Checks.glyphIs("B", desk, 1, 2160, 4500, 'B', 0);
        Checks.glyphIs("C on the next line", desk, 2, 1440, 5700, 'C', 0);
        Checks.glyphIs("D on the next but one", desk, 3, 1440, 6900, 'D', 0);
        Checks.feed(desk, "E ");
        Checks.cursor("a space wraps too", desk, 2160, 8100);
        desk = Checks.fed("~&s0C");
        desk.move(57600, 79000);
        Checks.feed(desk, "A");
        Checks.looks("wrap at the foot ejects", desk, Checks.PAGES, 1);
        Checks.glyphIs("on the new page", desk, 0, 0, 4500, 'A', 0);
        desk = Checks.fed("~&s0C~&a3M~&k99HA");
        Checks.glyphIs("too wide for the line: there all the same", desk, 0, 0, 5700, 'A', 0);
        Checks.looks("X beyond RIGHT", desk, Checks.X, 5940);
        desk = Checks.fed("~&s0C~&k32767HA");
        Checks.glyphIs("too wide for the page", desk, 0, 0, 5700, 'A', 0);
        Checks.looks("X at WIDTH", desk, Checks.X, 57600);
        desk = Checks.fed("~&k3G~&s0C~&a1MABC");
        Checks.glyphIs("one line feed whatever the line end", desk, 2, 0, 5700, 'C', 0);
    }

    private static void backspace() {
        PageDesk desk = Checks.fed("AB\b");
        Checks.cursor("back", desk, 720, 4500);
        Checks.feed(desk, "\b\b");
        Checks.looks("at LEFT", desk, Checks.X, 0);
        desk = Checks.fed("~&a5LA\b\b");
        Checks.looks("at LEFT 3600", desk, Checks.X, 3600);
        desk.move(3601, 100);
        Checks.feed(desk, "\b");
        Checks.looks("at least LEFT", desk, Checks.X, 3600);
        desk.move(3599, 100);
        Checks.feed(desk, "\b");
        Checks.looks("left of LEFT", desk, Checks.X, 2879);
        desk.move(500, 100);
        Checks.feed(desk, "\b");
        Checks.looks("at least 0", desk, Checks.X, 0);
        desk.move(57600, 100);
        Checks.feed(desk, "~&a9M\b");
        Checks.looks("from beyond RIGHT", desk, Checks.X, 6480);
    }

    private static void tab() {
        PageDesk desk = Checks.fed("\t");
        Checks.looks("first stop", desk, Checks.X, 5760);
        Checks.feed(desk, "\t");
        Checks.looks("above X", desk, Checks.X, 11520);
        desk.move(11519, 0);
        Checks.feed(desk, "\t");
        Checks.looks("one unit ahead", desk, Checks.X, 11520);
        desk.move(56000, 0);
        Checks.feed(desk, "\t");
        Checks.looks("most RIGHT, which is a stop", desk, Checks.X, 57600);
        Checks.feed(desk, "\t");
        Checks.looks("stays at RIGHT", desk, Checks.X, 57600);
        desk = Checks.fed("~&a3l14M\t");
        Checks.looks("from LEFT", desk, Checks.X, 2160 + 5760);
        desk.move(2160 + 5759, 0);
        Checks.feed(desk, "\t");
        Checks.looks("one unit ahead of a stop from LEFT", desk, Checks.X, 2160 + 5760);
        Checks.feed(desk, "\t");
        Checks.looks("at most RIGHT", desk, Checks.X, 10800);
        desk.move(2000, 0);
        Checks.feed(desk, "\t");
        Checks.looks("left of LEFT", desk, Checks.X, 2160);
        desk.move(20000, 0);
        Checks.feed(desk, "\t");
        Checks.looks("beyond RIGHT", desk, Checks.X, 10800);
        Checks.feed(desk, "~&k0H");
        desk.move(5000, 0);
        Checks.feed(desk, "\t");
        Checks.looks("H 0: nothing", desk, Checks.X, 5000);
        desk.move(5, 0);
        Checks.feed(desk, "\t");
        Checks.looks("H 0: left of LEFT", desk, Checks.X, 2160);
    }

    private static void lineEnds() {
        // X behind 10, 13 and 12 from X 720, LEFT 0, and Y behind 10 and 13.
        int[][] want = {{720, 0, 720, 5700, 4500}, {720, 0, 720, 5700, 5700}, {0, 0, 0, 5700, 4500},
            {0, 0, 0, 5700, 5700}};
        for (int lineEnd = 0; lineEnd < 4; lineEnd++) {
            String set = "~&k" + lineEnd + "GA";
            String what = "line end " + lineEnd;
            Checks.looks(what, Checks.fed(set), Checks.LINE_END, lineEnd);
            Checks.cursor(what + ", 10", Checks.fed(set + "\n"), want[lineEnd][0], want[lineEnd][3]);
            Checks.cursor(what + ", 13", Checks.fed(set + "\r"), want[lineEnd][1], want[lineEnd][4]);
            PageDesk desk = Checks.fed(set + "\n\f");
            Checks.cursor(what + ", 12", desk, want[lineEnd][2], 4500);
            Checks.looks(what + ", 12", desk, Checks.PAGES, 1);
        }
        Checks.looks("4 is none", Checks.fed("~&k2g4G"), Checks.LINE_END, 2);
        Checks.looks("negative is 0", Checks.fed("~&k2g-1G"), Checks.LINE_END, 0);
        Checks.looks("to LEFT", Checks.fed("~&a4LA\r"), Checks.X, 2880);
    }

    private static void lineFeeds() {
        PageDesk desk = new PageDesk();
        desk.move(5, 78000);
        Checks.feed(desk, "\n");
        Checks.cursor("to the foot", desk, 5, 79200);
        Checks.feed(desk, "\n");
        Checks.cursor("beyond: eject", desk, 5, 4500);
        Checks.looks("beyond: eject", desk, Checks.PAGES, 1);
        desk.move(5, 78001);
        Checks.feed(desk, "\n");
        Checks.looks("one unit beyond", desk, Checks.PAGES, 2);
        Checks.feed(desk, "~&l0C");
        desk.move(5, 79200);
        Checks.feed(desk, "\n\n");
        Checks.looks("V 0 stays on the page", desk, Checks.PAGES, 2);
        Checks.looks("V 0 stays at its place", desk, Checks.Y, 79200);
    }

    private static void halfLineFeed() {
        PageDesk desk = Checks.fed("A~=");
        Checks.cursor("half a line", desk, 720, 5100);
        Checks.feed(desk, "~&l.5C~=");
        Checks.looks("V 75", desk, Checks.V, 75);
        Checks.looks("rounded towards 0", desk, Checks.Y, 5137);
        Checks.feed(desk, "~&k3G~=");
        Checks.cursor("no line end", desk, 720, 5174);
        desk.move(9, 79163);
        Checks.feed(desk, "~=");
        Checks.cursor("to the foot", desk, 9, 79200);
        Checks.feed(desk, "~=");
        Checks.cursor("beyond: eject", desk, 9, 3656);
        Checks.looks("beyond: eject", desk, Checks.PAGES, 1);
        desk = Checks.fed("~&l1l1F~=");
        Checks.looks("with SKIP: eject", desk, Checks.PAGES, 1);
    }

    private static void fonts() {
        PageDesk desk = Checks.fed("A\u000eB\u000eC\u000fD");
        int[] want = {0, 1, 1, 0};
        for (int i = 0; i < want.length; i++) {
            Checks.glyphIs("font", desk, i, i * 720, 4500, 'A' + i, want[i]);
        }
        Checks.looks("font", Checks.fed("\u000e"), Checks.FONT, 1);
    }

    private static void stepsOfLines() {
        int[] lines = {1, 2, 3, 4, 6, 8, 12, 16, 24, 48};
        int at = 0;
        for (int n = 0; n <= 60; n++) {
            boolean fits = at < lines.length && lines[at] == n;
            at += fits ? 1 : 0;
            Checks.looks("lines " + n, Checks.fed("~&l1c" + n + "D"), Checks.V, fits ? 7200 / n : 150);
        }
        Checks.looks("& l C", Checks.fed("~&l7.3333C"), Checks.V, 1099);
        Checks.looks("& l C at HEIGHT", Checks.fed("~&l528C"), Checks.V, 79200);
        Checks.looks("& l C above HEIGHT", Checks.fed("~&l528.01C"), Checks.V, 1200);
        Checks.looks("& l C a little above", Checks.fed("~&l528.0066C"), Checks.V, 79200);
        Checks.looks("& l C far above", Checks.fed("~&l32767C"), Checks.V, 1200);
        Checks.looks("& l C negative", Checks.fed("~&l-5C"), Checks.V, 0);
        Checks.looks("& l D negative", Checks.fed("~&l-6D"), Checks.V, 1200);
        Checks.looks("Y stays", Checks.fed("~&l12D"), Checks.Y, 4500);
    }

    private static void topAndLength() {
        PageDesk desk = Checks.fed("~&l10E");
        Checks.looks("top", desk, Checks.TOP, 12000);
        Checks.looks("length", desk, Checks.LENGTH, 63600);
        Checks.looks("Y stays", desk, Checks.Y, 4500);
        desk = Checks.fed("~&l66E");
        Checks.looks("top at HEIGHT", desk, Checks.TOP, 79200);
        Checks.looks("length at least 0", desk, Checks.LENGTH, 0);
        Checks.feed(desk, "\f");
        Checks.looks("home is brought to HEIGHT", desk, Checks.Y, 79200);
        desk = Checks.fed("~&l67E");
        Checks.looks("top above HEIGHT", desk, Checks.TOP, 3600);
        Checks.looks("length then", desk, Checks.LENGTH, 72000);
        desk = Checks.fed("~&l500c32767E");
        Checks.looks("top far above HEIGHT", desk, Checks.TOP, 3600);
        desk = Checks.fed("~&l-3E");
        Checks.looks("top negative", desk, Checks.TOP, 0);
        Checks.looks("length behind it", desk, Checks.LENGTH, 75600);
        Checks.looks("length", Checks.fed("~&l20F"), Checks.LENGTH, 24000);
        Checks.looks("length to HEIGHT", Checks.fed("~&l63F"), Checks.LENGTH, 75600);
        Checks.looks("length beyond", Checks.fed("~&l64F"), Checks.LENGTH, 72000);
        Checks.looks("length far beyond", Checks.fed("~&l500c32767F"), Checks.LENGTH, 72000);
        Checks.looks("length of none", Checks.fed("~&lF"), Checks.LENGTH, 0);
        Checks.looks("length negative", Checks.fed("~&l-5F"), Checks.LENGTH, 0);
    }

    private static void skip() {
        Checks.looks("on", Checks.fed("~&l1L"), Checks.SKIP, 1);
        Checks.looks("on, then 2", Checks.fed("~&l1l2L"), Checks.SKIP, 1);
        Checks.looks("off", Checks.fed("~&l1l0L"), Checks.SKIP, 0);
        Checks.looks("off by a negative", Checks.fed("~&l1l-1L"), Checks.SKIP, 0);
        // TOP + LENGTH is 6000, the lines stand at 4500, 5700, 6900.
        PageDesk desk = Checks.fed("~&l2f1LA\nB\n");
        Checks.looks("past the text", desk, Checks.PAGES, 1);
        Checks.pageIs("past the text", desk, 0, 2, 2, 0, 1);
        Checks.cursor("home", desk, 1440, 4500);
        desk.move(0, 4800);
        Checks.feed(desk, "\n");
        Checks.looks("to its very end", desk, Checks.Y, 6000);
        desk = Checks.fed("~&l2FA\nB\n");
        Checks.cursor("without SKIP", desk, 1440, 6900);
    }

    private static void stepAcross() {
        Checks.looks("& k H", Checks.fed("~&k12.5H"), Checks.H, 750);
        Checks.looks("rounded towards 0", Checks.fed("~&k.0333H"), Checks.H, 1);
        Checks.looks("negative", Checks.fed("~&k-12H"), Checks.H, 0);
        Checks.looks("most", Checks.fed("~&k32767.9999H"), Checks.H, 1966079);
        Checks.looks("X by it", Checks.fed("~&k12.5HAB"), Checks.X, 1500);
    }

    private static void margins() {
        PageDesk desk = Checks.fed("A~&a4L");
        Checks.looks("left", desk, Checks.LEFT, 2880);
        Checks.looks("X at least there", desk, Checks.X, 2880);
        Checks.feed(desk, "~&a9c4L");
        Checks.looks("X further right stays", desk, Checks.X, 6480);
        Checks.looks("left below RIGHT", Checks.fed("~&a79L"), Checks.LEFT, 56880);
        Checks.looks("left not below RIGHT", Checks.fed("~&a80L"), Checks.LEFT, 0);
        desk = Checks.fed("~&a5l0c80L");
        Checks.looks("refused left stays", desk, Checks.LEFT, 3600);
        Checks.looks("refused left leaves X", desk, Checks.X, 0);
        Checks.looks("left negative", Checks.fed("~&a5l-5L"), Checks.LEFT, 0);
        Checks.looks("left huge", Checks.fed("~&k32767H~&a32767L"), Checks.LEFT, 0);
        desk = Checks.fed("~&a30c9M");
        Checks.looks("right", desk, Checks.RIGHT, 7200);
        Checks.looks("X at most there", desk, Checks.X, 7200);
        Checks.looks("right at most WIDTH", Checks.fed("~&a80M"), Checks.RIGHT, 57600);
        Checks.looks("right huge", Checks.fed("~&k32767H~&a10m32767M"), Checks.RIGHT, 57600);
        desk = Checks.fed("~&a9m9l");
        Checks.looks("left one column ahead", desk, Checks.LEFT, 6480);
        desk = Checks.fed("~&a10l9M");
        Checks.looks("right not above LEFT", desk, Checks.RIGHT, 57600);
        Checks.looks("right just above", Checks.fed("~&a10l10M"), Checks.RIGHT, 7920);
        desk = Checks.fed("~&a20l30m79c10M");
        Checks.looks("refused right stays", desk, Checks.RIGHT, 22320);
        Checks.looks("refused right leaves X", desk, Checks.X, 56880);
        Checks.looks("right negative", Checks.fed("~&a-5M"), Checks.RIGHT, 720);
        Checks.looks("right with H 0", Checks.fed("~&k0H~&a9M"), Checks.RIGHT, 57600);
        desk = Checks.fed("~&a10l20M~9");
        Checks.looks("ESC 9, left", desk, Checks.LEFT, 0);
        Checks.looks("ESC 9, right", desk, Checks.RIGHT, 57600);
        Checks.looks("ESC 9, X stays", desk, Checks.X, 7200);
    }

    private static void wrapCommand() {
        Checks.looks("on", Checks.fed("~&s0C"), Checks.WRAP, 1);
        Checks.looks("on by no value", Checks.fed("~&sC"), Checks.WRAP, 1);
        Checks.looks("on by a negative", Checks.fed("~&s-1C"), Checks.WRAP, 1);
        Checks.looks("off", Checks.fed("~&s0c1C"), Checks.WRAP, 0);
        Checks.looks("2 is none", Checks.fed("~&s0c2C"), Checks.WRAP, 1);
        Checks.looks("2 is none", Checks.fed("~&s2C"), Checks.WRAP, 0);
    }

    private static void stack() {
        PageDesk desk = new PageDesk();
        for (int i = 0; i < 22; i++) {
            desk.move(i, 100 + i);
            Checks.feed(desk, "~&f0S");
        }
        Checks.looks("at most 20", desk, Checks.PLACES, 20);
        Checks.same("the twentieth", desk.place(19, false), 19);
        Checks.same("the twentieth's Y", desk.place(19, true), 119);
        Checks.feed(desk, "~&f2S");
        Checks.looks("2 is none", desk, Checks.PLACES, 20);
        for (int i = 19; i >= 0; i--) {
            Checks.feed(desk, "~&f1S");
            Checks.cursor("taken", desk, i, 100 + i);
            Checks.looks("taken", desk, Checks.PLACES, i);
        }
        desk.move(7, 8);
        Checks.feed(desk, "~&f1S");
        Checks.cursor("none to take", desk, 7, 8);
        Checks.feed(desk, "~&f-1S");
        Checks.looks("negative is 0", desk, Checks.PLACES, 1);
        desk = Checks.fed("~&l1O");
        desk.move(70000, 60000);
        Checks.feed(desk, "~&f0S");
        desk.move(100, 79000);
        Checks.feed(desk, "~&f0S~&l0O");
        Checks.same("the stack outlives the page", desk.place(0, false), 70000);
        Checks.feed(desk, "~&f1s1S");
        Checks.cursor("brought onto the page", desk, 57600, 60000);
    }

    private static void cursorAcross() {
        Checks.looks("& a C", Checks.fed("~&a5.5C"), Checks.X, 3960);
        Checks.looks("& a C, rounded", Checks.fed("~&a.0333C"), Checks.X, 23);
        Checks.looks("& a C +", Checks.fed("~&a5c+2.5C"), Checks.X, 5400);
        Checks.looks("& a C -", Checks.fed("~&a5c-.0333C"), Checks.X, 3577);
        Checks.looks("& a C below 0", Checks.fed("~&a5c-6C"), Checks.X, 0);
        Checks.looks("& a C at WIDTH", Checks.fed("~&a81C"), Checks.X, 57600);
        Checks.looks("& a C huge", Checks.fed("~&k32767H~&a32767C"), Checks.X, 57600);
        Checks.looks("& a C huge -", Checks.fed("~&k32767H~&a-32767C"), Checks.X, 0);
        Checks.looks("& a C of none", Checks.fed("~&a5cC"), Checks.X, 0);
        Checks.looks("& a C + alone", Checks.fed("~&a5c+C"), Checks.X, 3600);
        Checks.looks("& a H", Checks.fed("~&a720.59H"), Checks.X, 7205);
        Checks.looks("& a H +", Checks.fed("~&a5c+720H"), Checks.X, 10800);
        Checks.looks("& a H -", Checks.fed("~&a5c-7.19H"), Checks.X, 3529);
        Checks.looks("* p X", Checks.fed("~*p300.1X"), Checks.X, 7202);
        Checks.looks("* p X +", Checks.fed("~*p300x+1X"), Checks.X, 7224);
        Checks.looks("* p X -", Checks.fed("~*p300x-1.5X"), Checks.X, 7164);
        Checks.looks("margins do not hold it", Checks.fed("~&a10l20m5C"), Checks.X, 3600);
        Checks.looks("margins do not hold it", Checks.fed("~&a10l20m50C"), Checks.X, 36000);
        Checks.looks("Y stays", Checks.fed("~&a5C~*p1x1X"), Checks.Y, 4500);
    }

    private static void cursorDown() {
        Checks.looks("& a R", Checks.fed("~&a2.5R"), Checks.Y, 7500);
        Checks.looks("& a R of 0", Checks.fed("\n\n~&a0R"), Checks.Y, 4500);
        Checks.looks("& a R +", Checks.fed("\n~&a+2R"), Checks.Y, 8100);
        Checks.looks("& a R -", Checks.fed("\n~&a-.0333R"), Checks.Y, 5661);
        Checks.looks("& a R above 0", Checks.fed("~&a-32767R"), Checks.Y, 0);
        Checks.looks("& a R at HEIGHT", Checks.fed("~&a32767R"), Checks.Y, 79200);
        Checks.looks("& a R from a new TOP", Checks.fed("~&l10e8D~&a1R"), Checks.Y, 12000 + 675 + 900);
        Checks.looks("HOME rounded", Checks.fed("~&l.5C~&a0R"), Checks.Y, 3656);
        Checks.looks("& a V", Checks.fed("~&a720.59V"), Checks.Y, 10805);
        Checks.looks("& a V +", Checks.fed("~&a+36.5V"), Checks.Y, 4865);
        Checks.looks("& a V -", Checks.fed("~&a-36.59V"), Checks.Y, 4135);
        Checks.looks("* p Y", Checks.fed("~*p300.1Y"), Checks.Y, 10802);
        Checks.looks("* p Y +", Checks.fed("~*p+150.5Y"), Checks.Y, 8112);
        Checks.looks("* p Y -", Checks.fed("~*p-1Y"), Checks.Y, 4476);
        Checks.looks("* p Y at HEIGHT", Checks.fed("~*p9999Y"), Checks.Y, 79200);
        Checks.looks("X stays", Checks.fed("A~&a5r5V~*p5Y"), Checks.X, 720);
    }

    private static void pages() {
        PageDesk desk = new PageDesk();
        Checks.outside("no page yet", () -> desk.page(0, 0));
        for (int i = 0; i < 45; i++) {
            Checks.feed(desk, "~&l" + (i + 1) + "X" + (i % 2 == 0 ? "A" : "AB") + "\f\r");
        }
        Checks.looks("pages", desk, Checks.PAGES, 45);
        for (int i = 5; i < 45; i++) {
            Checks.pageIs("kept", desk, i, i % 2 == 0 ? 1 : 2, 2, 0, i + 1);
        }
        for (int i : new int[] {-1, 0, 4, 45, Integer.MIN_VALUE, Integer.MAX_VALUE}) {
            Checks.outside("page " + i, () -> desk.page(i, 0));
        }
        for (int w : new int[] {-1, 4, Integer.MIN_VALUE, Integer.MAX_VALUE}) {
            Checks.outside("page's " + w, () -> desk.page(44, w));
        }
        PageDesk empty = Checks.fed("\f");
        Checks.pageIs("an empty page", empty, 0, 0, 2, 0, 1);
    }

    private static void due() {
        PageDesk desk = Checks.fed(" \n");
        Checks.looks("not due", desk, Checks.DUE, 0);
        Checks.feed(desk, "A");
        Checks.looks("a glyph makes it due", desk, Checks.DUE, 1);
        Checks.feed(desk, "\f");
        Checks.looks("the next is not", desk, Checks.DUE, 0);
        Checks.feed(desk, "~E");
        Checks.looks("not ejected", desk, Checks.PAGES, 1);
    }

    private static void glyphs() {
        PageDesk desk = Checks.fed("~&l6a1O");
        Checks.outside("no glyph yet", () -> desk.glyph(0, 0));
        desk.move(118800, 79200);
        Checks.feed(desk, "\u000e\u00ff");
        Checks.glyphIs("in the far corner", desk, 0, 118800, 79200, 255, 1);
        for (int i : new int[] {-1, 1, Integer.MIN_VALUE, Integer.MAX_VALUE}) {
            Checks.outside("glyph " + i, () -> desk.glyph(i, 0));
        }
        for (int w : new int[] {-1, 4, Integer.MIN_VALUE, Integer.MAX_VALUE}) {
            Checks.outside("glyph's " + w, () -> desk.glyph(0, w));
        }
        Checks.feed(desk, "~&l0O");
        desk.move(0, 122400);
        Checks.feed(desk, "a");
        Checks.glyphIs("at the foot", desk, 0, 0, 122400, 'a', 1);
        Checks.feed(desk, "\f");
        Checks.outside("gone with the page", () -> desk.glyph(0, 0));
    }

    private static void overrun() {
        // Beyond the 512 calls of the document, but it must not go wrong inside.
        PageDesk desk = Checks.fed("~&k0H");
        for (int i = 0; i < 750; i++) {
            Checks.feed(desk, "abcdefgh");
        }
        Checks.looks("full", desk, Checks.GLYPHS, 6000);
        Checks.looks("full", desk, Checks.OVERRUN, 0);
        Checks.feed(desk, "~&k1Hij");
        Checks.looks("no room", desk, Checks.GLYPHS, 6000);
        Checks.looks("no room", desk, Checks.OVERRUN, 1);
        Checks.looks("all else as if it came", desk, Checks.X, 120);
        Checks.outside("no such glyph", () -> desk.glyph(6000, 0));
        Checks.feed(desk, "\f");
        Checks.looks("over", desk, Checks.OVERRUN, 0);
        Checks.pageIs("all that came", desk, 0, 6002, 2, 0, 1);
    }
}
