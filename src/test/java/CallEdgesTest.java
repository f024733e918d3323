/** The calls of the face (promises 1 to 14): at each boundary, and on the near side of it. */
public final class CallEdgesTest {
    public static void main(String[] args) {
        newObjectIsFirstState();
        feedOfOneToEight();
        advanceAtItsBounds();
        advanceOfMinusOne();
        advanceOutlivesReset();
        dueUntilEjected();
        keepInEachSlot();
        keepInPlaceOfWhatWas();
        bringMarginsAtMostWidth();
        bringCursorToThePage();
        bringLeavesSlot();
        glyphFirstAndLast();
        latestFortyPages();
        pageParts();
        otherParts();
        dataRows();
        takeInOrder();
        roomForSixteenOthers();
        lostWithItsData();
        roomForData();
        placeFirstAndLast();
        lookAtEach();
        Checks.finish();
    }

    private static void newObjectIsFirstState() {
        PageDesk desk = new PageDesk();
        int[] first = {0, 4500, 0, 57600, 3600, 72000, 720, 1200, 57600, 79200, 2, 0, 0, 0, 0, 1, 0, 0, 0, 0, 0, 0,
            0, 0, 0};
        for (int which = 0; which < first.length; which++) {
            Checks.looks("new", desk, which, first[which]);
        }
        Checks.outside("no GLYPH", () -> desk.glyph(0, 0));
        Checks.outside("no page", () -> desk.page(0, 0));
        Checks.outside("no place", () -> desk.place(0, false));
        Checks.refused("no OTHERS", IllegalStateException.class, () -> desk.other(0));
        Checks.refused("no DATA", IllegalStateException.class, () -> desk.data(0));
        Checks.no("nothing to take", desk.take());
        for (int slot = 0; slot < 3; slot++) {
            Checks.no("nothing kept", desk.bring(slot));
        }
        PageDesk another = new PageDesk();
        Checks.feed(desk, "AB~*b2Wxy~&f0S\f");
        desk.keep(0);
        Checks.alike("one desk leaves another alone", another, new PageDesk());
        Checks.no("one desk leaves another alone", another.bring(0));
    }

    /** "The n lowest bytes of part come, the highest of them first: true" */
    private static void feedOfOneToEight() {
        for (int n = 1; n <= 8; n++) {
            PageDesk desk = new PageDesk();
            Checks.yes("feed of " + n, desk.feed(0xF1F2F3F4F5F6F7F8L, n));
            Checks.looks("feed of " + n, desk, Checks.BYTES, n);
            Checks.looks("feed of " + n, desk, Checks.GLYPHS, n);
            for (int i = 0; i < n; i++) {
                Checks.glyphIs("feed of " + n, desk, i, 720 * i, 4500, 0xF9 - n + i, 0);
            }
        }
        PageDesk desk = new PageDesk();
        Checks.yes("eight zeros", desk.feed(0, 8));
        Checks.looks("eight zeros", desk, Checks.BYTES, 8);
        Checks.alike("eight zeros", desk, new PageDesk());
    }

    private static void stepOf(String what, PageDesk desk, int font, int b, int want) {
        desk.move(0, 5000);
        Checks.raw(desk, font == 0 ? 15 : 14, 27, '&', 'p', '1', 'X', b);
        Checks.looks(what + ": font " + font + ", byte " + b, desk, Checks.X, want);
    }

    private static void advanceAtItsBounds() {
        for (int font = 0; font < 2; font++) {
            for (int b : new int[] {0, 1, 31, 32, 127, 254, 255}) {
                for (int units : new int[] {0, 1, 719, 19999, 20000}) {
                    PageDesk desk = new PageDesk();
                    Checks.yes("advance", desk.advance(font, b, units));
                    stepOf("told", desk, font, b, units);
                    stepOf("the other font's own", desk, 1 - font, b, 720);
                    stepOf("another byte's own", desk, font, b == 255 ? 254 : b + 1, 720);
                    stepOf("another byte's own", desk, font, b == 0 ? 255 : b - 1, 720);
                }
            }
        }
    }

    /** "or (for -1) H again" */
    private static void advanceOfMinusOne() {
        PageDesk desk = new PageDesk();
        Checks.yes("advance of -1 where none was", desk.advance(0, 'A', -1));
        stepOf("H", desk, 0, 'A', 720);
        desk.advance(0, 'A', 5);
        desk.advance(1, 'A', 6);
        Checks.yes("advance of -1", desk.advance(0, 'A', -1));
        stepOf("H again", desk, 0, 'A', 720);
        stepOf("the other font's stays", desk, 1, 'A', 6);
        Checks.feed(desk, "~&k1H");
        stepOf("H of now", desk, 0, 'A', 60);
    }

    /** "From now on (also behind a RESET)" */
    private static void advanceOutlivesReset() {
        PageDesk desk = Checks.fed("A");
        desk.advance(0, 'A', 5);
        desk.advance(1, 'A', 6);
        Checks.glyphIs("what came stays", desk, 0, 0, 4500, 'A', 0);
        Checks.looks("what came stays", desk, Checks.X, 720);
        Checks.feed(desk, "~E");
        stepOf("behind a RESET", desk, 0, 'A', 5);
        stepOf("behind a RESET", desk, 1, 'A', 6);
        desk.keep(0);
        desk.advance(1, 'A', 7);
        desk.bring(0);
        stepOf("not of what is kept", desk, 1, 'A', 7);
    }

    /** "The page is DUE from now on, until it is ejected." */
    private static void dueUntilEjected() {
        PageDesk desk = new PageDesk();
        desk.due();
        PageDesk want = new PageDesk();
        for (int which = 0; which < 24; which++) {
            Checks.looks("due() changes nothing else", desk, which, want.look(which));
        }
        Checks.feed(desk, " \n~&a5C~&l4a6X");
        Checks.looks("still DUE", desk, Checks.DUE, 1);
        desk.keep(0);
        Checks.feed(desk, "\f");
        Checks.looks("ejected by 12", desk, Checks.DUE, 0);
        desk.bring(0);
        Checks.looks("not brought back", desk, Checks.DUE, 0);
        desk.due();
        desk.move(0, 79200);
        Checks.feed(desk, "\n");
        Checks.looks("ejected by a line feed", desk, Checks.DUE, 0);
        desk.due();
        desk.move(0, 79200);
        Checks.feed(desk, "~=");
        Checks.looks("ejected by half a line feed", desk, Checks.DUE, 0);
        desk.due();
        desk.move(57600, 79200);
        Checks.feed(desk, "~&s0C ");
        Checks.looks("ejected by a wrap", desk, Checks.DUE, 0);
        Checks.looks("pages", desk, Checks.PAGES, 4);
    }

    private static final String KEPT = "~&l10e40f8d1L~&a5l60M~&k11h2G~&s0C~&f0S\u000e~&a8c9R~&f0S~&a9C";

    private static void keepInEachSlot() {
        for (int slot = 0; slot < 3; slot++) {
            PageDesk desk = Checks.fed(KEPT);
            Checks.yes("keep", desk.keep(slot));
            Checks.alike("keep changes nothing else", desk, Checks.fed(KEPT));
            for (int other = 0; other < 3; other++) {
                if (other != slot) {
                    Checks.no("nothing in the others", desk.bring(other));
                }
            }
            // Also over other places where the kept ones stood
            Checks.feed(desk, "~E~&a77c50R~&f0s0s0S~E");
            Checks.yes("bring", desk.bring(slot));
            Checks.alike("as it was kept", desk, Checks.fed(KEPT));
        }
    }

    private static void keepInPlaceOfWhatWas() {
        PageDesk desk = Checks.fed(KEPT);
        desk.keep(0);
        Checks.feed(desk, "~E~&f0s0s0S");
        desk.move(3, 4);
        desk.keep(0);
        Checks.feed(desk, KEPT);
        desk.bring(0);
        PageDesk want = Checks.fed("~&f0s0s0S");
        want.move(3, 4);
        Checks.alike("the later one", desk, want);
        desk = new PageDesk();
        desk.keep(0);
        Checks.feed(desk, KEPT);
        desk.bring(0);
        Checks.alike("an empty stack in place of a full one", desk, new PageDesk());
    }

    /** "LEFT and RIGHT at most WIDTH" */
    private static void bringMarginsAtMostWidth() {
        // A page of size 1 has WIDTH 48600: 48599 is 23 * 2113, 48600 is 10 * 4860, 48601 is 7 * 6943.
        String[] steps = {"~&k.3834H", "~&k.1667H", "~&k.1167H"};
        int[] counts = {2113, 4860, 6943};
        for (int i = 0; i < 3; i++) {
            int want = Math.min(48600, 48599 + i);
            PageDesk desk = Checks.fed("~&l6A" + steps[i] + "~&a" + counts[i] + "L");
            Checks.looks("LEFT to keep", desk, Checks.LEFT, 48599 + i);
            desk.keep(0);
            Checks.feed(desk, "~&l1A");
            Checks.yes("bring", desk.bring(0));
            Checks.looks("LEFT " + (48599 + i), desk, Checks.LEFT, want);
            Checks.looks("RIGHT at most WIDTH", desk, Checks.RIGHT, 48600);
            desk = Checks.fed("~&l6A" + steps[i] + "~&a" + (counts[i] - 1) + "M");
            Checks.looks("RIGHT to keep", desk, Checks.RIGHT, 48599 + i);
            desk.keep(0);
            Checks.feed(desk, "~&l1A");
            Checks.yes("bring", desk.bring(0));
            Checks.looks("RIGHT " + (48599 + i), desk, Checks.RIGHT, want);
            Checks.looks("LEFT stays", desk, Checks.LEFT, 0);
        }
        PageDesk desk = Checks.fed("~&l1A");
        desk.keep(0);
        Checks.feed(desk, "~&l6A");
        desk.bring(0);
        Checks.looks("a smaller page's RIGHT on a larger one", desk, Checks.RIGHT, 48600);
        Checks.looks("a smaller page's LENGTH on a larger one", desk, Checks.LENGTH, 68400);
    }

    /** "X and Y brought to where they can be" */
    private static void bringCursorToThePage() {
        for (int more = -1; more <= 1; more++) {
            PageDesk desk = Checks.fed("~&l6A");
            desk.move(48600 + more, 75600 + more);
            Checks.feed(desk, "~&f0S");
            desk.keep(2);
            Checks.feed(desk, "~&l1A");
            Checks.yes("bring", desk.bring(2));
            Checks.cursor("brought", desk, Math.min(48600, 48600 + more), Math.min(75600, 75600 + more));
            Checks.same("the STACK as it was", desk.place(0, false), 48600 + more);
            Checks.same("the STACK as it was", desk.place(0, true), 75600 + more);
            Checks.looks("LENGTH as it was", desk, Checks.LENGTH, 115200);
        }
    }

    /** "the slot keeps them" */
    private static void bringLeavesSlot() {
        PageDesk desk = Checks.fed("~&l6A");
        desk.move(75600, 122400);
        Checks.feed(desk, "~&f0S");
        desk.keep(0);
        Checks.feed(desk, "~&l1A");
        desk.bring(0);
        Checks.feed(desk, "~&f1s0s0S");
        desk.move(1, 2);
        Checks.feed(desk, "~&l6A");
        Checks.yes("bring again", desk.bring(0));
        Checks.cursor("bring again", desk, 75600, 122400);
        Checks.looks("bring again", desk, Checks.RIGHT, 75600);
        Checks.looks("bring again", desk, Checks.PLACES, 1);
        Checks.same("bring again", desk.place(0, true), 122400);
    }

    private static void glyphFirstAndLast() {
        PageDesk desk = Checks.fed("A\u000eB");
        Checks.glyphIs("the first", desk, 0, 0, 4500, 'A', 0);
        Checks.glyphIs("the last", desk, 1, 720, 4500, 'B', 1);
        Checks.outside("behind the last", () -> desk.glyph(2, 0));
        Checks.outside("behind the last", () -> desk.glyph(2, 3));
        Checks.outside("w -1", () -> desk.glyph(0, -1));
        Checks.outside("w 4", () -> desk.glyph(0, 4));
        Checks.feed(desk, "C");
        Checks.glyphIs("one more", desk, 2, 1440, 4500, 'C', 1);
        Checks.feed(desk, "\f");
        Checks.outside("none on the next page", () -> desk.glyph(0, 0));
    }

    /** "(the latest 40 are kept, i counts from the first of all)" */
    private static void latestFortyPages() {
        PageDesk desk = new PageDesk();
        for (int done = 1; done <= 85; done++) {
            int copies = done;
            Checks.feed(desk, "~&l" + copies + "X\f");
            int oldest = Math.max(0, done - 40);
            Checks.looks("pages done", desk, Checks.PAGES, done);
            Checks.same("the oldest of " + done, desk.page(oldest, 3), oldest + 1);
            Checks.same("the latest of " + done, desk.page(done - 1, 3), done);
            int gone = oldest - 1;
            int next = done;
            Checks.outside("no longer kept, or -1, of " + done, () -> desk.page(gone, 3));
            Checks.outside("not done yet, of " + done, () -> desk.page(next, 3));
        }
        for (int i = 45; i < 85; i++) {
            Checks.pageIs("each that is kept", desk, i, 0, 2, 0, i + 1);
        }
    }

    private static void pageParts() {
        PageDesk desk = Checks.fed("~&l26a3o7XABC\f~&l1a0o1X");
        Checks.pageIs("as they were when it was done", desk, 0, 3, 26, 3, 7);
        Checks.outside("w -1", () -> desk.page(0, -1));
        Checks.outside("w 4", () -> desk.page(0, 4));
    }

    private static void otherParts() {
        PageDesk desk = Checks.fed("~(s-32767.9999x+5Wabc");
        Checks.otherIs("the least VALUE", desk, '(', 's', -327679999, 'X', 1, 0, 0);
        Checks.outside("w -1", () -> desk.other(-1));
        Checks.outside("w 7", () -> desk.other(7));
        Checks.yes("take", desk.take());
        for (int come = 3; come <= 5; come++) {
            Checks.otherIs("DATA as it comes", desk, '(', 's', 50000, 'W', 1, come, 5 - come);
            Checks.raw(desk, 'x');
        }
        Checks.otherIs("no more than its DATA", desk, '(', 's', 50000, 'W', 1, 5, 0);
    }

    /** "Eight bytes 8 * k .. 8 * k + 7 of its DATA that have come, the first one highest, 0 where there are none." */
    private static void dataRows() {
        PageDesk desk = Checks.fed("~*b17W");
        long[] rows = new long[4];
        for (int come = 0; come <= 17; come++) {
            for (int k = -1; k < 3; k++) {
                Checks.same("data(" + k + ") of " + come, desk.data(k), k < 0 ? 0 : rows[k]);
            }
            for (int k : new int[] {3, 4, 511, 512, 1 << 28, 1 << 29, (1 << 29) - 1, -(1 << 29), Integer.MAX_VALUE,
                    Integer.MIN_VALUE, Integer.MIN_VALUE + 1}) {
                Checks.same("data(" + k + ") of " + come, desk.data(k), 0);
            }
            if (come < 17) {
                Checks.raw(desk, 240 - come);
                rows[come / 8] |= (long) (240 - come) << 56 - come % 8 * 8;
            }
        }
        Checks.yes("take", desk.take());
        Checks.feed(desk, "~*b1W1~*b2W23");
        Checks.same("the first one's alone", desk.data(0), 0x31L << 56);
        Checks.same("the first one's alone", desk.data(1), 0);
        Checks.yes("take", desk.take());
        Checks.same("then the next one's", desk.data(0), 0x3233L << 48);
    }

    private static void takeInOrder() {
        PageDesk desk = Checks.fed("~*b1wx3wyz");
        Checks.yes("the first, its DATA has come", desk.take());
        Checks.no("the second, one is to come", desk.take());
        Checks.otherIs("the second is there", desk, '*', 'b', 30000, 'W', 0, 2, 1);
        Checks.feed(desk, "w");
        Checks.yes("the second, all have come", desk.take());
        Checks.no("none is left", desk.take());
    }

    private static PageDesk withOthers(int count) {
        PageDesk desk = new PageDesk();
        for (int i = 0; i < count; i++) {
            Checks.feed(desk, "~*c" + i + "Q");
        }
        return desk;
    }

    /** "There is room for 16 OTHERS" */
    private static void roomForSixteenOthers() {
        for (int count = 14; count <= 18; count++) {
            PageDesk desk = withOthers(count);
            int kept = Math.min(16, count);
            Checks.looks(count + " came", desk, Checks.OTHERS, kept);
            for (int i = 0; i < kept; i++) {
                Checks.otherIs(count + " came", desk, '*', 'c', i * 10000, 'Q', 0, 0, 0);
                Checks.yes(count + " came", desk.take());
            }
            Checks.no(count + " came, and none is left", desk.take());
        }
        Checks.alike("beyond 16: nothing else changes", withOthers(17), withOthers(16));
        PageDesk desk = withOthers(16);
        for (int i = 16; i < 50; i++) {
            Checks.yes("take", desk.take());
            Checks.feed(desk, "~*c" + i + "q" + (i + 100) + "Q");
            Checks.looks("room for one", desk, Checks.OTHERS, 16);
            Checks.otherIs("the oldest", desk, '*', 'c', (i - 15) * 10000, 'Q', 0, 0, 0);
        }
    }

    /** "OTHERS beyond are lost with their DATA" */
    private static void lostWithItsData() {
        PageDesk desk = withOthers(15);
        Checks.feed(desk, "~*b2WAB");
        PageDesk full = withOthers(15);
        Checks.feed(full, "~*b2WAB~*d3Wxyz");
        Checks.alike("lost with its DATA", full, desk);
        Checks.feed(full, "~*d3Wx");
        for (int i = 0; i < 15; i++) {
            Checks.yes("take amid lost DATA", full.take());
        }
        Checks.feed(full, "yz");
        Checks.otherIs("the last that had room", full, '*', 'b', 20000, 'W', 0, 2, 0);
        Checks.same("the last that had room", full.data(0), 0x4142L << 48);
        Checks.yes("take", full.take());
        Checks.no("the lost one is not there", full.take());
        Checks.looks("its DATA are no characters", full, Checks.GLYPHS, 0);
        Checks.feed(full, "~*d1Wq");
        Checks.otherIs("the next has its own", full, '*', 'd', 10000, 'W', 0, 1, 0);
        Checks.same("the next has its own", full.data(0), 0x71L << 56);
        // Commands that the desk knows itself are done all the same, and so are texts.
        PageDesk text = withOthers(16);
        Checks.feed(text, "~&a5C~&p1X\n");
        Checks.glyphIs("known ones with OTHERS full", text, 0, 3600, 4500, 10, 0);
    }

    /** "and 4096 bytes of DATA that were not taken; DATA beyond is lost: other(5) counts what is there, then" */
    private static void roomForData() {
        // Beyond the 512 calls of the document, but it must not go wrong inside.
        for (int size = 4095; size <= 4097; size++) {
            PageDesk desk = Checks.fed("~*b" + size + "W");
            for (int i = 0; i < size; i++) {
                desk.feed(i % 251 + 1, 1);
            }
            int there = Math.min(4096, size);
            Checks.otherIs("DATA of " + size, desk, '*', 'b', size * 10000, 'W', 0, there, 0);
            long last = desk.data(511) & 255;
            Checks.same("the last of " + size, last, size < 4096 ? 0 : 4095 % 251 + 1);
            Checks.same("none behind", desk.data(512), 0);
            Checks.looks("over", desk, Checks.UNDER_WAY, 0);
            Checks.feed(desk, "~*b1Wz");
            Checks.yes("take", desk.take());
            Checks.otherIs("the next of " + size, desk, '*', 'b', 10000, 'W', 0, size < 4096 ? 1 : 0, 0);
            Checks.same("the next of " + size, desk.data(0), size < 4096 ? 0x7AL << 56 : 0);
            Checks.yes("take", desk.take());
            Checks.feed(desk, "~*b1Wy");
            Checks.same("room again", desk.data(0), 0x79L << 56);
        }
    }

    private static void placeFirstAndLast() {
        PageDesk desk = new PageDesk();
        for (int i = 0; i < 20; i++) {
            int next = i;
            Checks.outside("above the highest", () -> desk.place(next, false));
            Checks.outside("above the highest", () -> desk.place(next, true));
            desk.move(i, 50 + i);
            Checks.feed(desk, "~&f0S");
            for (int at = 0; at <= i; at++) {
                Checks.same("place " + at, desk.place(at, false), at);
                Checks.same("place " + at, desk.place(at, true), 50 + at);
            }
            Checks.outside("below the lowest", () -> desk.place(-1, true));
        }
        Checks.outside("20 is never there", () -> desk.place(20, false));
    }

    private static void lookAtEach() {
        String text = "~&l26a3o9x10e8d1L~&a5l60M~&k11h2G~&s0C~&f0s0S\u000eA\fBC~*b1X~&a8c9R~&a";
        PageDesk desk = Checks.fed(text);
        int[] want = {5280, 20775, 3600, 43920, 12000, 43928, 660, 900, 81309, 59528, 26, 3, 1, 1, 2, 9, 1, 2, 2, 0,
            1, 1, text.length(), 1, 1};
        for (int which = 0; which < want.length; which++) {
            Checks.looks("each", desk, which, want[which]);
        }
        for (int which : new int[] {-1, -2, 25, 26, 256, Integer.MIN_VALUE, Integer.MAX_VALUE}) {
            Checks.looks("no such", desk, which, PageDesk.NONE);
        }
    }
}
