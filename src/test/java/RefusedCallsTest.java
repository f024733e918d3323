import java.util.List;
import java.util.function.Consumer;
import java.util.function.Function;
import java.util.function.Supplier;

/**
 * "What throws, or answers false, changes nothing. Of several exceptions that hold the first one
 * listed is thrown." Each refused call is made on one of two like desks, in several states; then
 * both must answer alike, also when what is hidden in them (slots, steps, the sequence under way)
 * is brought to light.
 */
public final class RefusedCallsTest {
    private static final int LEAST = Integer.MIN_VALUE;
    private static final int MOST = Integer.MAX_VALUE;
    private static final String OUTSIDE = "IndexOutOfBoundsException";
    private static final String NOT_NOW = "IllegalStateException";

    private static final List<Supplier<PageDesk>> STATES = List.of(PageDesk::new,
        RefusedCallsTest::withinField, RefusedCallsTest::withinData, RefusedCallsTest::withinText,
        RefusedCallsTest::full);
    private static final List<Consumer<Desk>> PROBES = List.of(RefusedCallsTest::bringAll,
        RefusedCallsTest::takeAll, desk -> fed(desk, "5.5c2R"), desk -> fed(desk, "abc~E~&k1HA"));

    public static void main(String[] args) {
        feedOfOtherThanOneToEight();
        advanceOutOfRange();
        keepInNoSlot();
        bringFromNoSlot();
        bringOfNothing();
        glyphThatIsNot();
        pageThatIsNot();
        otherThatIsNot();
        dataOfNone();
        takeOfNone();
        takeBeforeAllDataHasCome();
        placeThatIsNot();
        lookAtNone();
        Checks.finish();
    }

    // The states; slot 2 is empty in all of them.

    private static PageDesk rich() {
        PageDesk desk = Checks.fed("~&l26a9x10e40f8d1L~&a5l60M~&k11h1G~&s0C~&f0SAB\fC\u000eD~&f0S");
        desk.advance(0, 'A', 0);
        desk.advance(1, 'A', 20000);
        desk.advance(1, 255, 33);
        desk.keep(0);
        desk.move(7000, 8000);
        desk.keep(1);
        desk.due();
        return desk;
    }

    private static PageDesk withinField() {
        PageDesk desk = rich();
        Checks.feed(desk, "~*b+2.5X~&a3c-1.2");
        return desk;
    }

    private static PageDesk withinData() {
        PageDesk desk = rich();
        Checks.feed(desk, "~*b5wabcd");
        return desk;
    }

    private static PageDesk withinText() {
        PageDesk desk = rich();
        Checks.feed(desk, "~(s1P~&p3xa");
        return desk;
    }

    private static PageDesk full() {
        PageDesk desk = rich();
        for (int i = 0; i < 20; i++) {
            Checks.feed(desk, "~&f0S~*b2Wxy\f\fZ");
        }
        return desk;
    }

    // What brings to light what is hidden.

    private static void fed(Desk desk, String text) {
        for (char c : text.replace('~', (char) 27).toCharArray()) {
            desk.feed(c, 1);
        }
    }

    private static void bringAll(Desk desk) {
        for (int slot = 0; slot < 2; slot++) {
            desk.bring(slot);
            fed(desk, "~&f0S");
        }
        desk.bring(2);
    }

    private static void takeAll(Desk desk) {
        fed(desk, "zzzzzzz~(9W12345678");
        for (int i = 0; i < 15; i++) {
            desk.take();
        }
    }

    /** Where a character of each byte and font leads. */
    private static String steps(Desk desk) {
        StringBuilder text = new StringBuilder();
        fed(desk, "zzz~E");
        for (int font = 0; font < 2; font++) {
            fed(desk, font == 0 ? "\u000f" : "\u000e");
            for (int b = 0; b < 256; b++) {
                desk.move(0, 0);
                fed(desk, "~&p1X");
                desk.feed(b, 1);
                text.append(' ').append(desk.look(Checks.X));
            }
        }
        return text.toString();
    }

    private static void same(String what, String got, String want) {
        if (!got.equals(want)) {
            Checks.yes(what + "\n  answered " + got + "\n  due is   " + want + "\n  alike", false);
        }
    }

    private static void refused(String what, String want, Supplier<PageDesk> state, Function<Desk, String> call) {
        for (int probe = 0; probe <= PROBES.size(); probe++) {
            Desk asked = new RealDesk(state.get());
            Desk left = new RealDesk(state.get());
            same(what, call.apply(asked), want);
            same(what + " changes nothing", Snapshot.of(asked), Snapshot.of(left));
            if (probe == PROBES.size()) {
                same(what + " changes no step", steps(asked), steps(left));
            } else {
                PROBES.get(probe).accept(asked);
                PROBES.get(probe).accept(left);
                same(what + " changes nothing hidden", Snapshot.of(asked), Snapshot.of(left));
            }
        }
    }

    private static void refusedEverywhere(String what, String want, Function<Desk, String> call) {
        for (int i = 0; i < STATES.size(); i++) {
            refused(what + " in state " + i, want, STATES.get(i), call);
        }
    }

    // The calls

    private static void feedOfOtherThanOneToEight() {
        for (int n : new int[] {0, 9, -1, -8, 10, 16, 64, LEAST, LEAST + 1, MOST}) {
            refusedEverywhere("feed of " + n, "false", desk -> "" + desk.feed(0x4142434445464748L, n));
        }
    }

    private static void advanceOutOfRange() {
        for (int font : new int[] {-1, 2, LEAST, MOST}) {
            refusedEverywhere("advance of font " + font, "false", desk -> "" + desk.advance(font, 'A', 99));
        }
        for (int b : new int[] {-1, 256, 'A' - 256, 'A' + 256, LEAST, MOST}) {
            refusedEverywhere("advance of byte " + b, "false", desk -> "" + desk.advance(0, b, 99));
            refusedEverywhere("advance of byte " + b, "false", desk -> "" + desk.advance(1, b, 99));
        }
        for (int units : new int[] {-2, 20001, LEAST, MOST}) {
            refusedEverywhere("advance of units " + units, "false", desk -> "" + desk.advance(1, 'A', units));
        }
        refusedEverywhere("advance of nothing right", "false", desk -> "" + desk.advance(2, 256, 20001));
    }

    private static void keepInNoSlot() {
        for (int slot : new int[] {-1, 3, LEAST, MOST}) {
            refusedEverywhere("keep " + slot, "false", desk -> "" + desk.keep(slot));
        }
    }

    private static void bringFromNoSlot() {
        for (int slot : new int[] {-1, 3, LEAST, MOST}) {
            refusedEverywhere("bring " + slot, "false", desk -> "" + desk.bring(slot));
        }
    }

    private static void bringOfNothing() {
        refusedEverywhere("bring of nothing kept", "false", desk -> "" + desk.bring(2));
        for (int slot : new int[] {0, 1}) {
            refused("bring of nothing kept", "false", PageDesk::new, desk -> "" + desk.bring(slot));
        }
    }

    private static void glyphThatIsNot() {
        for (int i : new int[] {-1, LEAST, MOST, 6000, 5999}) {
            refusedEverywhere("glyph " + i, OUTSIDE, desk -> Snapshot.answer(() -> desk.glyph(i, 0)));
        }
        refusedEverywhere("glyph behind the last", OUTSIDE,
            desk -> Snapshot.answer(() -> desk.glyph(desk.look(Checks.GLYPHS), 0)));
        for (int w : new int[] {-1, 4, LEAST, MOST}) {
            refusedEverywhere("glyph's " + w, OUTSIDE, desk -> Snapshot.answer(() -> desk.glyph(0, w)));
        }
        refusedEverywhere("nothing of a glyph", OUTSIDE, desk -> Snapshot.answer(() -> desk.glyph(-1, 4)));
    }

    private static void pageThatIsNot() {
        for (int i : new int[] {-1, LEAST, MOST}) {
            refusedEverywhere("page " + i, OUTSIDE, desk -> Snapshot.answer(() -> desk.page(i, 0)));
        }
        refusedEverywhere("page behind the last", OUTSIDE,
            desk -> Snapshot.answer(() -> desk.page(desk.look(Checks.PAGES), 0)));
        for (int w : new int[] {-1, 4, LEAST, MOST}) {
            refusedEverywhere("page's " + w, OUTSIDE,
                desk -> Snapshot.answer(() -> desk.page(desk.look(Checks.PAGES) - 1, w)));
        }
        refused("page no longer kept", OUTSIDE, RefusedCallsTest::full,
            desk -> Snapshot.answer(() -> desk.page(desk.look(Checks.PAGES) - 41, 0)));
        refused("the first page, no longer kept", OUTSIDE, RefusedCallsTest::full,
            desk -> Snapshot.answer(() -> desk.page(0, 0)));
    }

    private static void otherThatIsNot() {
        for (int w : new int[] {-1, 7, LEAST, MOST}) {
            for (int i = 1; i < STATES.size(); i++) {
                refused("other " + w + " in state " + i, OUTSIDE, STATES.get(i),
                    desk -> Snapshot.answer(() -> desk.other(w)));
            }
            refused("other " + w + " of none: the first one listed", NOT_NOW, PageDesk::new,
                desk -> Snapshot.answer(() -> desk.other(w)));
        }
        for (int w = 0; w < 7; w++) {
            int part = w;
            refused("other " + w + " of none", NOT_NOW, PageDesk::new,
                desk -> Snapshot.answer(() -> desk.other(part)));
            refused("other " + w + " with none left", NOT_NOW, RefusedCallsTest::rich,
                desk -> Snapshot.answer(() -> desk.other(part)));
        }
    }

    private static void dataOfNone() {
        for (int k : new int[] {0, 1, -1, 511, 512, LEAST, MOST}) {
            refused("data " + k + " of none", NOT_NOW, PageDesk::new, desk -> Snapshot.answer(() -> desk.data(k)));
            refused("data " + k + " with none left", NOT_NOW, RefusedCallsTest::rich,
                desk -> Snapshot.answer(() -> desk.data(k)));
        }
    }

    private static void takeOfNone() {
        refused("take of none", "false", PageDesk::new, desk -> "" + desk.take());
        refused("take of none", "false", RefusedCallsTest::rich, desk -> "" + desk.take());
    }

    private static void takeBeforeAllDataHasCome() {
        refused("take amid data", "false", RefusedCallsTest::withinData, desk -> "" + desk.take());
        refused("take ahead of data", "false", () -> Checks.fed("~*b1W"), desk -> "" + desk.take());
        refused("take ahead of much data", "false", () -> Checks.fed("~*b32767W1"), desk -> "" + desk.take());
    }

    private static void placeThatIsNot() {
        for (int i : new int[] {-1, 20, 21, LEAST, MOST}) {
            refusedEverywhere("place " + i, OUTSIDE, desk -> Snapshot.answer(() -> desk.place(i, false)));
            refusedEverywhere("place " + i, OUTSIDE, desk -> Snapshot.answer(() -> desk.place(i, true)));
        }
        refusedEverywhere("place above the highest", OUTSIDE,
            desk -> Snapshot.answer(() -> desk.place(desk.look(Checks.PLACES), true)));
    }

    private static void lookAtNone() {
        for (int which : new int[] {-1, 25, 26, LEAST, MOST}) {
            refusedEverywhere("look " + which, "-1", desk -> "" + desk.look(which));
        }
    }
}
