/** The calls beside the stream: promises 3 to 7 and 13. */
public final class CallsTest {
    public static void main(String[] args) {
        advance();
        advanceRefuses();
        due();
        move();
        keepAndBring();
        bringOntoSmallerPage();
        slots();
        bringLeavesTheRest();
        bringAmidSequence();
        place();
        Checks.finish();
    }

    private static void advance() {
        PageDesk desk = new PageDesk();
        Checks.yes("font 0", desk.advance(0, 'A', 1500));
        Checks.yes("font 1", desk.advance(1, 'A', 0));
        Checks.yes("a space's", desk.advance(0, ' ', 20000));
        Checks.yes("byte 255", desk.advance(1, 255, 7));
        Checks.yes("byte 0", desk.advance(0, 0, 11));
        Checks.feed(desk, "A");
        Checks.looks("A in font 0", desk, Checks.X, 1500);
        Checks.feed(desk, "B");
        Checks.looks("B has H", desk, Checks.X, 2220);
        Checks.feed(desk, "\u000eA");
        Checks.looks("A in font 1", desk, Checks.X, 2220);
        Checks.feed(desk, "\u00ff");
        Checks.looks("255 in font 1", desk, Checks.X, 2227);
        Checks.feed(desk, "\u000f\u00ff");
        Checks.looks("255 in font 0", desk, Checks.X, 2947);
        Checks.feed(desk, " ");
        Checks.looks("a space", desk, Checks.X, 22947);
        Checks.feed(desk, "~&p1X\0");
        Checks.looks("0", desk, Checks.X, 22958);
        Checks.feed(desk, "~E~&k1HAB");
        Checks.looks("behind a reset", desk, Checks.X, 1560);
        Checks.yes("H again", desk.advance(0, 'A', -1));
        Checks.feed(desk, "A");
        Checks.looks("H again", desk, Checks.X, 1620);
        desk.move(37600, 0);
        Checks.feed(desk, " ");
        Checks.looks("just fits", desk, Checks.X, 57600);
        desk.move(37601, 0);
        Checks.feed(desk, " ");
        Checks.looks("does not fit", desk, Checks.X, 37601);
    }

    private static void advanceRefuses() {
        PageDesk desk = new PageDesk();
        desk.advance(0, 'A', 5);
        int[] far = {Integer.MIN_VALUE, Integer.MAX_VALUE};
        for (int font : new int[] {-1, 2, far[0], far[1]}) {
            Checks.no("font " + font, desk.advance(font, 'A', 9));
        }
        for (int b : new int[] {-1, 256, 'A' + 256, far[0], far[1]}) {
            Checks.no("byte " + b, desk.advance(0, b, 9));
        }
        for (int units : new int[] {-2, 20001, far[0], far[1]}) {
            Checks.no("units " + units, desk.advance(0, 'A', units));
        }
        Checks.no("font 1, byte below", desk.advance(1, 'A' - 256, 9));
        Checks.feed(desk, "A\u000eA");
        Checks.looks("nothing changed", desk, Checks.X, 725);
    }

    private static void due() {
        PageDesk desk = new PageDesk();
        desk.due();
        Checks.looks("due", desk, Checks.DUE, 1);
        Checks.feed(desk, "~&l1O");
        Checks.pageIs("ejected", desk, 0, 0, 2, 0, 1);
        Checks.looks("no more", desk, Checks.DUE, 0);
        Checks.feed(desk, "~&l0O");
        Checks.looks("not again", desk, Checks.PAGES, 1);
        desk.due();
        Checks.feed(desk, "\f~E");
        Checks.looks("ejected by a form feed", desk, Checks.PAGES, 2);
        desk.due();
        Checks.feed(desk, "~E");
        Checks.looks("ejected by a reset", desk, Checks.PAGES, 3);
        Checks.looks("no more behind a reset", desk, Checks.DUE, 0);
    }

    private static void move() {
        PageDesk desk = new PageDesk();
        desk.move(123, 456);
        Checks.cursor("move", desk, 123, 456);
        desk.move(-1, -1);
        Checks.cursor("below 0", desk, 0, 0);
        desk.move(57600, 79200);
        Checks.cursor("corner", desk, 57600, 79200);
        desk.move(57601, 79201);
        Checks.cursor("beyond", desk, 57600, 79200);
        desk.move(Integer.MIN_VALUE, Integer.MAX_VALUE);
        Checks.cursor("far", desk, 0, 79200);
        desk.move(Integer.MAX_VALUE, Integer.MIN_VALUE);
        Checks.cursor("far", desk, 57600, 0);
        Checks.feed(desk, "~&l1O");
        desk.move(80000, 80000);
        Checks.cursor("on its side", desk, 76320, 61200);
        Checks.feed(desk, "~&a10l20M");
        desk.move(1, 1);
        Checks.cursor("margins do not hold it", desk, 1, 1);
    }

    private static final String SETUP =
        "~&l10e5f24d1l9X~&a5l30M~&k6h3G~&s0C~&f0S\u000e~&a7c7R~&f0S~&a8C";
    private static final int[] SET = {2880, 14325, 3600, 22320, 12000, 6000, 360, 300, 57600, 79200, 2, 0,
        1, 1, 3, 9, 1, 2};

    private static void keepAndBring() {
        PageDesk desk = Checks.fed(SETUP);
        Checks.yes("keep", desk.keep(1));
        for (int which = 0; which < SET.length; which++) {
            Checks.looks("as set", desk, which, SET[which]);
        }
        Checks.feed(desk, "~E~&l9X");
        Checks.looks("reset", desk, Checks.PLACES, 0);
        for (int times = 0; times < 2; times++) {
            Checks.yes("bring", desk.bring(1));
            for (int which = 0; which < SET.length; which++) {
                Checks.looks("brought " + times, desk, which, SET[which]);
            }
            Checks.same("stack 0", desk.place(0, false), 3600);
            Checks.same("stack 0, Y", desk.place(0, true), 4500);
            Checks.same("stack 1", desk.place(1, false), 2520);
            Checks.same("stack 1, Y", desk.place(1, true), 14325);
            // The slot keeps its own.
            Checks.feed(desk, "~&f1s1s0s0S~9~&l1C\u000f~&s1C~&k0G~&l0LA");
        }
    }

    private static void bringOntoSmallerPage() {
        PageDesk desk = Checks.fed("~&l6a1O~&a150l160M~&l800C~&l500C");
        desk.move(119000, 79000);
        Checks.feed(desk, "~&f0S~&l1x60E");
        Checks.yes("keep", desk.keep(0));
        Checks.feed(desk, "~&l1o1A");
        Checks.yes("bring", desk.bring(0));
        Checks.looks("left at most WIDTH", desk, Checks.LEFT, 72720);
        Checks.looks("right at most WIDTH", desk, Checks.RIGHT, 72720);
        Checks.cursor("brought onto the page", desk, 72720, 52200);
        Checks.looks("V as it was", desk, Checks.V, 75000);
        Checks.same("stack as it was", desk.place(0, false), 119000);
        Checks.same("stack as it was, Y", desk.place(0, true), 79000);
        Checks.feed(desk, "~&f1SA\t\b\r\n");
        Checks.looks("eject, home at most HEIGHT", desk, Checks.Y, 52200);
        Checks.feed(desk, "~&l6A");
        Checks.yes("bring again", desk.bring(0));
        Checks.cursor("the slot keeps its own", desk, 119000, 79000);
        Checks.looks("left of the slot", desk, Checks.LEFT, 108000);
        Checks.looks("right of the slot", desk, Checks.RIGHT, 115920);
        desk = Checks.fed("~&l6A~&l800E~&l100E");
        desk.keep(2);
        Checks.looks("top", desk, Checks.TOP, 120000);
        Checks.feed(desk, "~&l1A");
        desk.bring(2);
        Checks.looks("top as it was", desk, Checks.TOP, 120000);
        Checks.feed(desk, "~&l0F");
        Checks.looks("no length from there", desk, Checks.LENGTH, 0);
    }

    private static void slots() {
        PageDesk desk = new PageDesk();
        int[] none = {-1, 3, Integer.MIN_VALUE, Integer.MAX_VALUE};
        for (int slot : none) {
            Checks.no("keep " + slot, desk.keep(slot));
        }
        for (int slot = 0; slot < 3; slot++) {
            Checks.no("nothing kept in " + slot, desk.bring(slot));
            desk.move(10 + slot, 20);
            Checks.yes("keep " + slot, desk.keep(slot));
        }
        desk.move(1, 2);
        for (int slot : none) {
            Checks.no("bring " + slot, desk.bring(slot));
        }
        Checks.cursor("nothing changed", desk, 1, 2);
        for (int slot = 0; slot < 3; slot++) {
            Checks.yes("bring " + slot, desk.bring(slot));
            Checks.cursor("bring " + slot, desk, 10 + slot, 20);
        }
        desk.move(99, 98);
        Checks.yes("keep in place of what was", desk.keep(1));
        desk.move(0, 0);
        Checks.feed(desk, "~E");
        Checks.yes("bring behind a reset", desk.bring(1));
        Checks.cursor("bring behind a reset", desk, 99, 98);
    }

    private static void bringLeavesTheRest() {
        PageDesk desk = new PageDesk();
        desk.keep(0);
        Checks.feed(desk, "A\f~&l3X~&l26a2oB~(1X");
        Checks.looks("sequence over", desk, Checks.UNDER_WAY, 0);
        desk.advance(0, 'C', 5);
        desk.due();
        Checks.yes("bring", desk.bring(0));
        int[][] want = {{Checks.SIZE, 26}, {Checks.ORIENTATION, 2}, {Checks.COPIES, 3}, {Checks.PAGES, 1},
            {Checks.DUE, 1}, {Checks.WIDTH, 55928}, {Checks.HEIGHT, 84189}, {Checks.RIGHT, 55928},
            {Checks.LENGTH, 72000}};
        for (int[] one : want) {
            Checks.looks("left alone", desk, one[0], one[1]);
        }
        Checks.looks("others left alone", desk, Checks.OTHERS, 2);
        Checks.feed(desk, "C");
        Checks.looks("steps left alone", desk, Checks.X, 5);
    }

    private static void bringAmidSequence() {
        PageDesk desk = new PageDesk();
        desk.keep(0);
        Checks.feed(desk, "AB~&a1");
        desk.bring(0);
        Checks.looks("still under way", desk, Checks.UNDER_WAY, 1);
        Checks.feed(desk, "2C");
        Checks.looks("it goes on", desk, Checks.X, 8640);
    }

    private static void place() {
        PageDesk desk = new PageDesk();
        Checks.outside("none", () -> desk.place(0, false));
        desk.move(11, 22);
        Checks.feed(desk, "~&f0S");
        desk.move(33, 44);
        Checks.feed(desk, "~&f0S");
        Checks.same("lowest, X", desk.place(0, false), 11);
        Checks.same("lowest, Y", desk.place(0, true), 22);
        Checks.same("next, X", desk.place(1, false), 33);
        Checks.same("next, Y", desk.place(1, true), 44);
        for (int i : new int[] {-1, 2, 20, Integer.MIN_VALUE, Integer.MAX_VALUE}) {
            Checks.outside("place " + i, () -> desk.place(i, true));
        }
        Checks.feed(desk, "~&f1S");
        Checks.outside("taken", () -> desk.place(1, false));
    }
}
