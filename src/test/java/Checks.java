import java.util.function.IntSupplier;
import java.util.function.LongSupplier;

/** What the project's tests share: answers are compared, what is wrong is printed and counted. */
final class Checks {
    static final int X = 0, Y = 1, LEFT = 2, RIGHT = 3, TOP = 4, LENGTH = 5, H = 6, V = 7;
    static final int WIDTH = 8, HEIGHT = 9, SIZE = 10, ORIENTATION = 11, WRAP = 12, SKIP = 13;
    static final int LINE_END = 14, COPIES = 15, FONT = 16, PLACES = 17, GLYPHS = 18;
    static final int OVERRUN = 19, PAGES = 20, OTHERS = 21, BYTES = 22, UNDER_WAY = 23, DUE = 24;

    private static int wrong = 0;

    private Checks() {
    }

    static void same(String what, long got, long want) {
        if (got != want) {
            wrong++;
            System.out.println(what + " answered " + got + ", due is " + want);
        }
    }

    static void yes(String what, boolean got) {
        same(what, got ? 1 : 0, 1);
    }

    static void no(String what, boolean got) {
        same(what, got ? 1 : 0, 0);
    }

    static void refused(String what, Class<? extends RuntimeException> want, LongSupplier call) {
        try {
            long got = call.getAsLong();
            wrong++;
            System.out.println(what + " answered " + got + ", due is " + want.getSimpleName());
        } catch (RuntimeException e) {
            if (e.getClass() != want) {
                wrong++;
                System.out.println(what + " threw " + e + ", due is " + want.getSimpleName());
            }
        }
    }

    static void outside(String what, IntSupplier call) {
        refused(what, IndexOutOfBoundsException.class, () -> call.getAsInt());
    }

    /** Feeds a text whose characters are the bytes, eight at a time; '~' stands for ESC. */
    static void feed(PageDesk desk, String text) {
        String bytes = text.replace('~', (char) 27);
        for (int at = 0; at < bytes.length(); at += 8) {
            int n = Math.min(8, bytes.length() - at);
            long part = 0;
            for (int i = 0; i < n; i++) {
                part = part << 8 | bytes.charAt(at + i);
            }
            yes("feed", desk.feed(part, n));
        }
    }

    static void raw(PageDesk desk, int... bytes) {
        for (int b : bytes) {
            yes("feed of one byte", desk.feed(b, 1));
        }
    }

    static PageDesk fed(String text) {
        PageDesk desk = new PageDesk();
        feed(desk, text);
        return desk;
    }

    static void looks(String what, PageDesk desk, int which, long want) {
        same(what + ": look(" + which + ")", desk.look(which), want);
    }

    /** All that both answer is the same, but for how many bytes came. */
    static void alike(String what, PageDesk got, PageDesk want) {
        String gotState = Snapshot.withoutBytes(got);
        String wantState = Snapshot.withoutBytes(want);
        if (!gotState.equals(wantState)) {
            wrong++;
            System.out.println(what + " left" + gotState + "\n  due is" + wantState);
        }
    }

    static void cursor(String what, PageDesk desk, long x, long y) {
        looks(what + ", X", desk, X, x);
        looks(what + ", Y", desk, Y, y);
    }

    static void glyphIs(String what, PageDesk desk, int i, int... parts) {
        if (i >= desk.look(GLYPHS)) {
            same(what + ": GLYPHS at least", desk.look(GLYPHS), i + 1);
            return;
        }
        for (int w = 0; w < parts.length; w++) {
            same(what + ": glyph(" + i + ", " + w + ")", desk.glyph(i, w), parts[w]);
        }
    }

    static void otherIs(String what, PageDesk desk, int... parts) {
        if (desk.look(OTHERS) == 0) {
            same(what + ": OTHERS at least", 0, 1);
            return;
        }
        for (int w = 0; w < parts.length; w++) {
            same(what + ": other(" + w + ")", desk.other(w), parts[w]);
        }
    }

    static void pageIs(String what, PageDesk desk, int i, int... parts) {
        if (i >= desk.look(PAGES)) {
            same(what + ": PAGES at least", desk.look(PAGES), i + 1);
            return;
        }
        for (int w = 0; w < parts.length; w++) {
            same(what + ": page(" + i + ", " + w + ")", desk.page(i, w), parts[w]);
        }
    }

    /** Sets H to 1, then the margins, then H to 720 again. */
    static void margins(PageDesk desk, int left, int right) {
        feed(desk, "~9~&k.0167H~&a" + (right - 1) + "m" + left + "L~&k12H");
        looks("margin set", desk, LEFT, left);
        looks("margin set", desk, RIGHT, right);
        looks("step set", desk, H, 720);
    }

    static void finish() {
        System.out.println(wrong == 0 ? "all answers are as due" : wrong + " answers are not as due");
        if (wrong != 0) {
            System.exit(1);
        }
    }
}
