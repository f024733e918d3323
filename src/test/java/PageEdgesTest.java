/** THE PAGE, CHARACTERS, CONTROL CODES and SHORT sequences: at each boundary, and on either side. */
public final class PageEdgesTest {
    public static void main(String[] args) {
        moveBringsToThePage();
        acrossBringsToThePage();
        downBringsToThePage();
        homeIsBroughtToThePage();
        takenPlaceIsBroughtToThePage();
        ejectLeavesTheRest();
        ejectIfDueOnly();
        roomAtTheRight();
        roomAtTheRightWithWrap();
        wrapAtTheFoot();
        wrapAtTheEndOfTheText();
        wrappedAndStillTooWide();
        roomForGlyphs();
        backspaceAtLeft();
        tabAtLeft();
        tabStops();
        tabAtRight();
        tabWithoutStep();
        lineEnds();
        lineFeedAtTheFoot();
        lineFeedAtTheEndOfTheText();
        textEndsBelowThePage();
        halfLineFeeds();
        otherControlCodesDoNothing();
        otherShortOnesDoNothing();
        marginsGoneByNine();
        resetWhateverWas();
        Checks.finish();
    }

    private static PageDesk at(String text, int x, int y) {
        PageDesk desk = Checks.fed(text);
        desk.move(x, y);
        Checks.cursor("moved", desk, x, y);
        return desk;
    }

    // "A place X is brought to 0 .. WIDTH, Y to 0 .. HEIGHT, whenever one is set."

    private static void moveBringsToThePage() {
        int[][] pages = {{1, 0, 48600, 75600}, {1, 1, 72720, 52200}, {2, 2, 57600, 79200}, {3, 3, 97920, 61200},
            {6, 0, 75600, 122400}, {26, 1, 81309, 59528}};
        for (int[] page : pages) {
            String what = "move on size " + page[0] + ", orientation " + page[1];
            PageDesk desk = Checks.fed("~&l" + page[0] + "a" + page[1] + "O");
            int width = page[2];
            int height = page[3];
            int[][] moves = {{0, 0, 0, 0}, {-1, -1, 0, 0}, {1, 1, 1, 1}, {width - 1, height - 1, width - 1, height - 1},
                {width, height, width, height}, {width + 1, height + 1, width, height}, {width + 1, 5, width, 5},
                {5, height + 1, 5, height}, {-1, height, 0, height}, {Integer.MIN_VALUE, Integer.MAX_VALUE, 0, height},
                {Integer.MAX_VALUE, Integer.MIN_VALUE, width, 0}};
            for (int[] move : moves) {
                desk.move(move[0], move[1]);
                Checks.cursor(what + " to " + move[0] + ", " + move[1], desk, move[2], move[3]);
            }
        }
    }

    private static void across(String text, int from, int want) {
        PageDesk desk = at("", from, 777);
        Checks.feed(desk, text);
        Checks.cursor(text + " from " + from, desk, want, 777);
    }

    private static void acrossBringsToThePage() {
        String[] absolute = {"~&a79.9987C", "~&a80C", "~&a80.0014C", "~&a5759.9H", "~&a5760H", "~&a5760.1H",
            "~*p2399.96X", "~*p2400X", "~*p2400.05X"};
        for (int i = 0; i < absolute.length; i++) {
            across(absolute[i], 123, Math.min(57600, 57599 + i % 3));
        }
        String[] grow = {"C", "H", "X"};
        int[] step = {720, 10, 24};
        String[] less = {".9987", ".9", ".96"};
        String[] more = {"1.0014", "1.1", "1.05"};
        for (int i = 0; i < grow.length; i++) {
            String start = grow[i].equals("X") ? "~*p" : "~&a";
            across(start + "+" + less[i] + grow[i], 57600 - step[i], 57599);
            across(start + "+1" + grow[i], 57600 - step[i], 57600);
            across(start + "+" + more[i] + grow[i], 57600 - step[i], 57600);
            across(start + "+32767" + grow[i], 1, 57600);
            across(start + "-" + less[i] + grow[i], step[i], 1);
            across(start + "-1" + grow[i], step[i], 0);
            across(start + "-" + more[i] + grow[i], step[i], 0);
            across(start + "-32767" + grow[i], 57600, 0);
            across(start + "32767" + grow[i], 1, 57600);
            across(start + "0" + grow[i], 57600, 0);
        }
    }

    private static void down(String text, int from, int want) {
        PageDesk desk = at("", 777, from);
        Checks.feed(desk, text);
        Checks.cursor(text + " from " + from, desk, 777, want);
    }

    private static void downBringsToThePage() {
        String[] absolute = {"~&a62.2492R", "~&a62.25R", "~&a62.2509R", "~&a7559.9V", "~&a7560V", "~&a7560.1V",
            "~*p3149.96Y", "~*p3150Y", "~*p3150.05Y"};
        for (int i = 0; i < absolute.length; i++) {
            down(absolute[i], 123, Math.min(79200, 79199 + i % 3));
        }
        String[] grow = {"R", "V", "Y"};
        int[] step = {1200, 10, 24};
        int[] start0 = {4500, 3600, 3600};
        String[] less = {".9992", ".9", ".96"};
        String[] more = {"1.0009", "1.1", "1.05"};
        for (int i = 0; i < grow.length; i++) {
            String start = grow[i].equals("Y") ? "~*p" : "~&a";
            down(start + "+" + less[i] + grow[i], 79200 - step[i], 79199);
            down(start + "+1" + grow[i], 79200 - step[i], 79200);
            down(start + "+" + more[i] + grow[i], 79200 - step[i], 79200);
            down(start + "+32767" + grow[i], 1, 79200);
            down(start + "-" + less[i] + grow[i], step[i], 1);
            down(start + "-1" + grow[i], step[i], 0);
            down(start + "-" + more[i] + grow[i], step[i], 0);
            down(start + "-32767" + grow[i], 79200, 0);
            down(start + "32767" + grow[i], 1, 79200);
            down(start + "0" + grow[i], 79200, start0[i]);
        }
    }

    private static void homeIsBroughtToThePage() {
        // HOME = TOP + V * 3 / 4; V 1200 has 900, and TOP is a multiple of V.
        int[][] tops = {{64, 77700}, {65, 78900}, {66, 79200}};
        for (int[] top : tops) {
            PageDesk desk = Checks.fed("~&l" + top[0] + "E\f");
            Checks.looks("HOME with TOP of " + top[0] + " lines", desk, Checks.Y, top[1]);
            Checks.feed(desk, "~&a0R");
            Checks.looks("& a R of 0 with TOP of " + top[0] + " lines", desk, Checks.Y, top[1]);
        }
        // With TOP 3600 it is at HEIGHT for V 100800, which a page of size 6 has room for.
        String[] steps = {"671.9934", "672", "672.0134"};
        int[][] wants = {{100799, 79199}, {100800, 79200}, {100802, 79200}};
        for (int i = 0; i < steps.length; i++) {
            PageDesk desk = Checks.fed("~&l6a" + steps[i] + "c2A");
            Checks.looks("V of " + steps[i], desk, Checks.V, wants[i][0]);
            Checks.looks("DEFAULTS with V of " + steps[i], desk, Checks.Y, wants[i][1]);
        }
        // V * 3 / 4 is rounded towards 0.
        int[][] odd = {{1, 0}, {2, 1}, {3, 2}, {4, 3}, {5, 3}};
        for (int[] one : odd) {
            String v = new String[] {"", ".0067", ".0134", ".02", ".0267", ".0334"}[one[0]];
            PageDesk desk = Checks.fed("~&l" + v + "C~&a0R");
            Checks.looks("V " + one[0], desk, Checks.V, one[0]);
            Checks.looks("HOME with V " + one[0], desk, Checks.Y, 3600 + one[1]);
        }
    }

    private static void takenPlaceIsBroughtToThePage() {
        for (int more = -1; more <= 1; more++) {
            PageDesk desk = at("~&l6A", 57600 + more, 79200 + more);
            Checks.feed(desk, "~&f0S~&l2A~&f1S");
            Checks.cursor("taken from the stack", desk, Math.min(57600, 57600 + more), Math.min(79200, 79200 + more));
        }
    }

    // "To EJECT"

    private static void ejectLeavesTheRest() {
        String set = "~&l26a2o9x10e40f8d1L~&a5l60M~&k11h2G~&s0C~&f0S\u000e~&a8c9R";
        PageDesk desk = Checks.fed(set + "ABC~&k0G\f");
        PageDesk want = Checks.fed(set + "   ~&k0G~&a0R");
        Checks.pageIs("the page that is done", desk, 0, 3, 26, 2, 9);
        Checks.outside("its glyphs are gone", () -> desk.glyph(0, 0));
        for (int which = 0; which <= 24; which++) {
            if (which != Checks.PAGES && which != Checks.BYTES) {
                Checks.looks("all else stays", desk, which, want.look(which));
            }
        }
        Checks.looks("Y is HOME", desk, Checks.Y, 12000 + 675);
        Checks.feed(desk, "\f");
        Checks.pageIs("eject without glyphs", desk, 1, 0, 26, 2, 9);
    }

    /** "To eject IF DUE is to do so only if the page is DUE: it has GLYPHS, or due() was called for it." */
    private static void ejectIfDueOnly() {
        for (String command : new String[] {"~E", "~&l2A", "~&l6A", "~&l0O", "~&l1O"}) {
            for (String notDue : new String[] {"", " ", "\n", "~&a80CA", "A\f", "~&s0C~&a80C ", "~*b1WA"}) {
                PageDesk desk = Checks.fed(notDue);
                int before = desk.look(Checks.PAGES);
                Checks.looks(notDue, desk, Checks.DUE, 0);
                Checks.feed(desk, command);
                Checks.looks(notDue + command, desk, Checks.PAGES, before);
            }
            for (String due : new String[] {"A", "\u00ff", "A\n", "~&p1X\0"}) {
                PageDesk desk = Checks.fed(due);
                Checks.looks(due, desk, Checks.DUE, 1);
                Checks.feed(desk, command);
                Checks.pageIs(due + command, desk, 0, 1, 2, 0, 1);
                Checks.looks(due + command, desk, Checks.DUE, 0);
                Checks.feed(desk, command);
                Checks.looks(due + command + command, desk, Checks.PAGES, 1);
            }
            PageDesk desk = new PageDesk();
            desk.due();
            desk.due();
            Checks.feed(desk, command);
            Checks.pageIs("due()" + command, desk, 0, 0, 2, 0, 1);
            Checks.looks("due()" + command, desk, Checks.DUE, 0);
            Checks.feed(desk, command);
            Checks.looks("due()" + command + command, desk, Checks.PAGES, 1);
        }
        PageDesk desk = new PageDesk();
        desk.due();
        Checks.feed(desk, "~&l4a5O");
        Checks.looks("no SIZE, no ORIENTATION: no eject", desk, Checks.PAGES, 0);
        Checks.looks("no SIZE, no ORIENTATION: no eject", desk, Checks.DUE, 1);
    }

    // "If X is not less than RIGHT, or X + STEP is above it"

    /** X less RIGHT, the STEP, and whether the character has room. */
    private static final int[][] ROOMS = {{-2, 0, 1}, {-2, 1, 1}, {-2, 2, 1}, {-2, 3, 0}, {-1, 0, 1}, {-1, 1, 1},
        {-1, 2, 0}, {0, 0, 0}, {0, 1, 0}, {1, 0, 0}, {1, 1, 0}, {-20000, 20000, 1}, {-19999, 20000, 0}};

    private static PageDesk atRight(String set, int[] room, int b) {
        PageDesk desk = Checks.fed(set);
        Checks.margins(desk, 1000, 30000);
        Checks.yes("advance", desk.advance(0, b, room[1]));
        desk.move(30000 + room[0], 10000);
        return desk;
    }

    private static void roomAtTheRight() {
        for (int[] room : ROOMS) {
            for (int b : new int[] {'A', ' ', 255}) {
                String what = "X " + room[0] + " from RIGHT, STEP " + room[1] + ", byte " + b;
                PageDesk desk = atRight("", room, b);
                Checks.raw(desk, b);
                if (room[2] == 0) {
                    Checks.alike(what + ": lost", desk, atRight("", room, b));
                    continue;
                }
                Checks.cursor(what, desk, 30000 + room[0] + room[1], 10000);
                Checks.looks(what, desk, Checks.GLYPHS, b == ' ' ? 0 : 1);
                if (b != ' ') {
                    Checks.glyphIs(what, desk, 0, 30000 + room[0], 10000, b, 0);
                }
            }
        }
    }

    private static void roomAtTheRightWithWrap() {
        for (int[] room : ROOMS) {
            for (int b : new int[] {'A', ' ', 255}) {
                String what = "WRAP, X " + room[0] + " from RIGHT, STEP " + room[1] + ", byte " + b;
                PageDesk desk = atRight("~&s0C", room, b);
                Checks.raw(desk, b);
                int x = room[2] == 1 ? 30000 + room[0] : 1000;
                int y = room[2] == 1 ? 10000 : 11200;
                Checks.cursor(what, desk, x + room[1], y);
                Checks.looks(what, desk, Checks.GLYPHS, b == ' ' ? 0 : 1);
                if (b != ' ') {
                    Checks.glyphIs(what, desk, 0, x, y, b, 0);
                }
            }
        }
    }

    /** The line feed of a wrap "if Y + V is above HEIGHT": eject. */
    private static void wrapAtTheFoot() {
        for (int more = -1; more <= 1; more++) {
            PageDesk desk = at("~&s0C~&k3GQ", 57600, 78000 + more);
            Checks.feed(desk, "A");
            boolean next = more > 0;
            Checks.looks("wrap at the foot", desk, Checks.PAGES, next ? 1 : 0);
            Checks.glyphIs("wrap at the foot", desk, next ? 0 : 1, 0, next ? 4500 : 79200 + more, 'A', 0);
            Checks.looks("wrap at the foot", desk, Checks.GLYPHS, next ? 1 : 2);
            if (next) {
                Checks.pageIs("without the character that goes over", desk, 0, 1, 2, 0, 1);
            }
        }
    }

    private static void wrapAtTheEndOfTheText() {
        for (int more = -1; more <= 1; more++) {
            PageDesk desk = at("~&s0C~&l10f1L", 57600, 3600 + 12000 - 1200 + more);
            Checks.feed(desk, "A");
            Checks.looks("wrap at the end of the text", desk, Checks.PAGES, more > 0 ? 1 : 0);
            Checks.glyphIs("wrap at the end of the text", desk, 0, 0, more > 0 ? 4500 : 15600 + more, 'A', 0);
        }
    }

    private static void wrappedAndStillTooWide() {
        for (int step : new int[] {999, 1000, 1001, 20000}) {
            PageDesk desk = Checks.fed("~&s0C");
            Checks.margins(desk, 1000, 2000);
            desk.move(1500, 5000);
            desk.advance(0, 'A', step);
            Checks.feed(desk, "A");
            Checks.glyphIs("STEP " + step, desk, 0, 1000, 6200, 'A', 0);
            Checks.cursor("STEP " + step, desk, 1000 + step, 6200);
            Checks.feed(desk, "A");
            Checks.glyphIs("STEP " + step + " again: one wrap a character", desk, 1, 1000, 7400, 'A', 0);
        }
        // X + STEP at WIDTH and beyond: 960 * 60 is WIDTH.
        String[] steps = {"959.9834", "960", "960.0167", "32767.9999"};
        for (int i = 0; i < steps.length; i++) {
            PageDesk desk = Checks.fed("~&s0C~&k" + steps[i] + "H\nA");
            Checks.looks("H " + steps[i], desk, Checks.X, i == 0 ? 57599 : 57600);
            Checks.glyphIs("H " + steps[i], desk, 0, 0, i < 2 ? 5700 : 6900, 'A', 0);
        }
    }

    /** "A page has room for 6000 GLYPHS; one that has none makes it OVERRUN, all else as if it came." */
    private static void roomForGlyphs() {
        // Beyond the 512 calls of the document, but it must not go wrong inside.
        PageDesk desk = Checks.fed("~&k0H");
        for (int i = 0; i < 749; i++) {
            desk.feed(0x4141414141414141L, 8);
        }
        desk.feed(0x41414141414141L, 7);
        Checks.feed(desk, "~&k1H");
        int[][] want = {{5999, 0}, {6000, 0}, {6000, 1}, {6000, 1}};
        for (int i = 0; i < want.length; i++) {
            Checks.looks(5999 + i + " came", desk, Checks.GLYPHS, want[i][0]);
            Checks.looks(5999 + i + " came", desk, Checks.OVERRUN, want[i][1]);
            Checks.looks(5999 + i + " came", desk, Checks.X, 60 * i);
            Checks.outside("glyph(6000)", () -> desk.glyph(6000, 0));
            Checks.feed(desk, "B");
        }
        Checks.glyphIs("the last that had room", desk, 5999, 0, 4500, 'B', 0);
        Checks.feed(desk, "\fC");
        Checks.pageIs("also those that had no room", desk, 0, 6003, 2, 0, 1);
        Checks.looks("not OVERRUN", desk, Checks.OVERRUN, 0);
        Checks.looks("the next page has room", desk, Checks.GLYPHS, 1);
    }

    // Control codes

    /** "8: X becomes X - H, but at least LEFT if X was not less than that (else at least 0)." */
    private static void backspaceAtLeft() {
        int[][] wants = {{3000 + 721, 3001}, {3000 + 720, 3000}, {3000 + 719, 3000}, {3001, 3000}, {3000, 3000},
            {2999, 2279}, {721, 1}, {720, 0}, {719, 0}, {1, 0}, {0, 0}, {9000, 8280}, {9001, 8281}, {57600, 56880}};
        for (int[] want : wants) {
            PageDesk desk = new PageDesk();
            Checks.margins(desk, 3000, 9000);
            desk.move(want[0], 5000);
            Checks.feed(desk, "\b");
            Checks.cursor("8 at " + want[0], desk, want[1], 5000);
            Checks.feed(desk, "~&k0H");
            desk.move(want[0], 5000);
            Checks.feed(desk, "\b");
            Checks.cursor("8 with H 0 at " + want[0], desk, want[0], 5000);
            Checks.feed(desk, "~&k32767H");
            desk.move(want[0], 5000);
            Checks.feed(desk, "\b");
            Checks.cursor("8 with the widest H at " + want[0], desk, want[0] < 3000 ? 0 : 3000, 5000);
        }
    }

    private static void tabFrom(String what, int left, int right, int x, int want) {
        PageDesk desk = new PageDesk();
        Checks.margins(desk, left, right);
        desk.move(x, 5000);
        Checks.feed(desk, "\t");
        Checks.cursor("9 " + what + " at " + x + " of " + left + " .. " + right, desk, want, 5000);
    }

    /** "9: if X is less than LEFT, X is LEFT" */
    private static void tabAtLeft() {
        tabFrom("far left of LEFT", 3000, 30000, 0, 3000);
        tabFrom("left of LEFT", 3000, 30000, 2999, 3000);
        tabFrom("at LEFT", 3000, 30000, 3000, 8760);
        tabFrom("right of LEFT", 3000, 30000, 3001, 8760);
        tabFrom("at LEFT 0", 0, 30000, 0, 5760);
    }

    /** "else it becomes the least LEFT + 8 * H * i that is above X" */
    private static void tabStops() {
        for (int i = 1; i < 4; i++) {
            int stop = 3000 + 5760 * i;
            tabFrom("ahead of a stop", 3000, 30000, stop - 1, stop);
            tabFrom("at a stop", 3000, 30000, stop, stop + 5760);
            tabFrom("behind a stop", 3000, 30000, stop + 1, stop + 5760);
        }
    }

    /** "but at most RIGHT" */
    private static void tabAtRight() {
        for (int more = -1; more <= 1; more++) {
            int right = 3000 + 5760 + more;
            tabFrom("a stop near RIGHT", 3000, right, 3000, Math.min(8760, right));
            tabFrom("ahead of RIGHT", 3000, right, right - 1, right);
            tabFrom("at RIGHT", 3000, right, right, right);
            tabFrom("beyond RIGHT", 3000, right, right + 1, right);
            tabFrom("far beyond RIGHT", 3000, right, 57600, right);
        }
    }

    /** "(if H is 0, nothing)" */
    private static void tabWithoutStep() {
        int[][] wants = {{2999, 3000}, {3000, 3000}, {3001, 3001}, {8999, 8999}, {9000, 9000}, {9001, 9001}};
        for (int[] want : wants) {
            PageDesk desk = new PageDesk();
            Checks.margins(desk, 3000, 9000);
            Checks.feed(desk, "~&k0H");
            desk.move(want[0], 5000);
            Checks.feed(desk, "\t");
            Checks.cursor("9 with H 0 at " + want[0], desk, want[1], 5000);
        }
        // The least H that is not 0, and the most
        PageDesk desk = at("~&k.0167H", 16, 5000);
        Checks.feed(desk, "\t");
        Checks.looks("9 with H 1", desk, Checks.X, 24);
        Checks.feed(desk, "~&k32767.9999H\t");
        Checks.looks("9 with the widest H", desk, Checks.X, 57600);
    }

    private static void lineEnds() {
        // For each LINE END: does 10, does 12, does 13 return, does 13 feed.
        int[][] does = {{0, 0, 1, 0}, {0, 0, 1, 1}, {1, 1, 1, 0}, {1, 1, 1, 1}};
        for (int lineEnd = 0; lineEnd < 4; lineEnd++) {
            for (int code : new int[] {10, 12, 13}) {
                PageDesk desk = Checks.fed("~&k" + lineEnd + "G");
                Checks.margins(desk, 3000, 9000);
                desk.move(5000, 6000);
                Checks.raw(desk, code);
                boolean returns = does[lineEnd][code - 10 - (code > 10 ? 1 : 0)] == 1;
                boolean feeds = code == 10 || code == 13 && does[lineEnd][3] == 1;
                Checks.cursor("LINE END " + lineEnd + ", " + code, desk, returns ? 3000 : 5000,
                    code == 12 ? 4500 : feeds ? 7200 : 6000);
                Checks.looks("LINE END " + lineEnd + ", " + code, desk, Checks.PAGES, code == 12 ? 1 : 0);
                desk.move(1000, 78001);
                Checks.raw(desk, code);
                Checks.cursor("LINE END " + lineEnd + ", " + code + " at the foot, left of LEFT", desk,
                    returns ? 3000 : 1000, code == 12 || feeds ? 4500 : 78001);
            }
        }
    }

    /** "A line feed: if Y + V is above HEIGHT .., eject; otherwise Y grows by V." */
    private static void lineFeedAtTheFoot() {
        int[][] wants = {{77999, 79199, 0}, {78000, 79200, 0}, {78001, 4500, 1}, {79200, 4500, 1}, {0, 1200, 0}};
        for (int[] want : wants) {
            PageDesk desk = at("", 555, want[0]);
            Checks.feed(desk, "\n");
            Checks.cursor("10 at " + want[0], desk, 555, want[1]);
            Checks.looks("10 at " + want[0], desk, Checks.PAGES, want[2]);
        }
        // V at HEIGHT itself, from the page's head
        PageDesk desk = at("~&l528C", 5, 0);
        Checks.feed(desk, "\n");
        Checks.cursor("V is HEIGHT", desk, 5, 79200);
        desk = at("~&l528C", 5, 1);
        Checks.feed(desk, "\n");
        Checks.looks("V is HEIGHT, one unit below the head", desk, Checks.PAGES, 1);
        Checks.looks("HOME is 3600 + 59400", desk, Checks.Y, 63000);
    }

    /** ".. or with SKIP above TOP + LENGTH, eject" */
    private static void lineFeedAtTheEndOfTheText() {
        // TOP 3600, LENGTH 12000
        int[][] wants = {{14399, 15599, 0}, {14400, 15600, 0}, {14401, 4500, 1}, {60000, 4500, 1}};
        for (int[] want : wants) {
            PageDesk desk = at("~&l10f1L", 555, want[0]);
            Checks.feed(desk, "\n");
            Checks.cursor("SKIP, 10 at " + want[0], desk, 555, want[1]);
            Checks.looks("SKIP, 10 at " + want[0], desk, Checks.PAGES, want[2]);
            desk = at("~&l10f1l0L", 555, want[0]);
            Checks.feed(desk, "\n");
            Checks.cursor("no SKIP, 10 at " + want[0], desk, 555, want[0] + 1200);
        }
        PageDesk desk = at("~&l0f1L", 5, 2400);
        Checks.feed(desk, "\n");
        Checks.cursor("LENGTH 0, to TOP", desk, 5, 3600);
        Checks.feed(desk, "~&l0C\n\n");
        Checks.looks("LENGTH 0, V 0, at TOP", desk, Checks.PAGES, 0);
    }

    /** A text kept on a larger page ends below a smaller one: HEIGHT still holds. */
    private static void textEndsBelowThePage() {
        int[][] wants = {{77999, 79199, 0}, {78000, 79200, 0}, {78001, 4500, 1}};
        for (int[] want : wants) {
            PageDesk desk = Checks.fed("~&l6a1L");
            desk.keep(0);
            Checks.feed(desk, "~&l2A");
            desk.bring(0);
            Checks.looks("LENGTH as kept", desk, Checks.LENGTH, 115200);
            desk.move(9, want[0]);
            Checks.feed(desk, "\n");
            Checks.cursor("text below the page, 10 at " + want[0], desk, 9, want[1]);
            Checks.looks("text below the page, 10 at " + want[0], desk, Checks.PAGES, want[2]);
        }
    }

    /** "=: as a line feed, with V / 2 in place of V." */
    private static void halfLineFeeds() {
        int[][] wants = {{78599, 79199, 0}, {78600, 79200, 0}, {78601, 4500, 1}, {79200, 4500, 1}};
        for (int[] want : wants) {
            PageDesk desk = at("~&k3G", 555, want[0]);
            Checks.feed(desk, "~=");
            Checks.cursor("= at " + want[0], desk, 555, want[1]);
            Checks.looks("= at " + want[0], desk, Checks.PAGES, want[2]);
        }
        int[][] text = {{14999, 15599, 0}, {15000, 15600, 0}, {15001, 4500, 1}};
        for (int[] want : text) {
            PageDesk desk = at("~&l10f1L", 555, want[0]);
            Checks.feed(desk, "~=");
            Checks.cursor("SKIP, = at " + want[0], desk, 555, want[1]);
            Checks.looks("SKIP, = at " + want[0], desk, Checks.PAGES, want[2]);
        }
        String[] steps = {"0", ".0067", ".0134", ".02"};
        for (int v = 0; v < steps.length; v++) {
            PageDesk desk = at("~&l" + steps[v] + "C", 5, 1000);
            Checks.feed(desk, "~=");
            Checks.looks("= with V " + v, desk, Checks.Y, 1000 + v / 2);
            desk.move(5, 79200);
            Checks.feed(desk, "~=");
            Checks.looks("= with V " + v + " at the foot", desk, Checks.PAGES, v >= 2 ? 1 : 0);
        }
    }

    private static final String RICH = "~&l26a2o9x10e40f8d1L~&a5l60M~&k11h2G~&s0C~&f0S\u000eA~&a8c9R";

    /** "Others do nothing." */
    private static void otherControlCodesDoNothing() {
        for (int code = 0; code < 32; code++) {
            boolean does = code >= 8 && code <= 15 && code != 11 || code == 27;
            if (!does) {
                PageDesk desk = Checks.fed(RICH);
                Checks.raw(desk, code);
                Checks.alike("control code " + code, desk, Checks.fed(RICH));
            }
        }
        PageDesk desk = Checks.fed(RICH + "\u000f");
        Checks.looks("15", desk, Checks.FONT, 0);
        Checks.feed(desk, "\u000e");
        Checks.alike("14", desk, Checks.fed(RICH));
        Checks.feed(desk, "\u000e");
        Checks.alike("14 again", desk, Checks.fed(RICH));
    }

    /** "Others do nothing." */
    private static void otherShortOnesDoNothing() {
        for (int b = 48; b <= 126; b++) {
            if (b != 'E' && b != '9' && b != '=') {
                PageDesk desk = Checks.fed(RICH);
                Checks.raw(desk, 27, b);
                Checks.alike("ESC and " + b, desk, Checks.fed(RICH));
            }
        }
    }

    /** "9: LEFT is 0, RIGHT is WIDTH." */
    private static void marginsGoneByNine() {
        PageDesk desk = Checks.fed("~&l6a1O");
        Checks.margins(desk, 3000, 9000);
        desk.move(2000, 5000);
        Checks.feed(desk, "~9");
        Checks.looks("9", desk, Checks.LEFT, 0);
        Checks.looks("9", desk, Checks.RIGHT, 119520);
        Checks.cursor("9 leaves the cursor", desk, 2000, 5000);
    }

    /** "E: eject IF DUE, then RESET." */
    private static void resetWhateverWas() {
        PageDesk desk = Checks.fed(RICH + "~E");
        Checks.pageIs("the page has what was", desk, 0, 1, 26, 2, 9);
        PageDesk want = Checks.fed("~&l26a2o9XA~E");
        Checks.alike("as another desk behind a RESET", desk, want);
        Checks.alike("nothing to reset", Checks.fed("~E~E"), new PageDesk());
        PageDesk one = Checks.fed("~&l6a1o5x0e1f1l3C~&a1l2M~&k1h3G~&s0C~&f0s0S\u000e~&a1c1R~E");
        Checks.alike("all of the first state", one, new PageDesk());
    }
}
