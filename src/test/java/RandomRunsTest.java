import java.util.Random;

/**
 * Long made-up runs of calls: nothing but the document's exceptions comes, refused calls change
 * nothing, and what holds in every state does.
 */
public final class RandomRunsTest {
    private static final String[] PIECES = {"~", "&", "*", "(", "l", "a", "k", "p", "s", "f", "A", "C", "D",
        "E", "F", "H", "L", "M", "O", "R", "S", "V", "W", "X", "Y", "o", "c", "w", "x", "0", "1", "2", "6",
        "9", "26", "32767", "+", "-", ".", "\n", "\r", "\f", "\t", "\b", " ", "\u000e", "\u000f", "~E",
        "~=", "~&l1O", "~&l0O", "~&l6A", "~&l1A", "~&f0S", "~&f1S", "~&s0C", "~&k", "~&a", "~&l", "~*p",
        "~*b3W", "~&p3X", "~&k0H", "~&l1L", "~&k3G", "~&l528C", "~&a70L", "~&a+9R", "\u00ff", "\0"};

    public static void main(String[] args) {
        for (int run = 0; run < 3000; run++) {
            Random random = new Random(run);
            PageDesk desk = new PageDesk();
            PageDesk twin = new PageDesk();
            for (int call = 0; call < 512; call++) {
                long seed = random.nextLong();
                long answer = call(desk, new Random(seed));
                Checks.same("run " + run + ", the same call on a twin", call(twin, new Random(seed)), answer);
                stateHolds("run " + run + ", call " + call, desk);
            }
        }
        Checks.finish();
    }

    private static int odd(Random random, int bound) {
        int kind = random.nextInt(10);
        return kind == 0 ? random.nextInt() : kind == 1 ? -1 : kind == 2 ? bound : random.nextInt(bound);
    }

    private static long call(PageDesk desk, Random random) {
        try {
            switch (random.nextInt(20)) {
                case 0: return desk.advance(odd(random, 2), odd(random, 256), odd(random, 20001)) ? 1 : 0;
                case 1: desk.due(); return 0;
                case 2: desk.move(odd(random, 130000), odd(random, 130000)); return 0;
                case 3: return desk.keep(odd(random, 3)) ? 1 : 0;
                case 4: return desk.bring(odd(random, 3)) ? 1 : 0;
                case 5: return desk.take() ? 1 : 0;
                case 6: return desk.feed(random.nextLong(), odd(random, 9)) ? 1 : 0;
                case 7: return desk.look(odd(random, 25));
                default: break;
            }
        } catch (RuntimeException e) {
            Checks.same("no exception is due: " + e, 1, 0);
        }
        if (random.nextInt(3) == 0) {
            return asked(desk, random);
        }
        Checks.feed(desk, PIECES[random.nextInt(PIECES.length)]);
        return 0;
    }

    private static long asked(PageDesk desk, Random random) {
        try {
            switch (random.nextInt(5)) {
                case 0: return desk.glyph(odd(random, 300), odd(random, 4));
                case 1: return desk.page(odd(random, 60), odd(random, 4));
                case 2: return desk.other(odd(random, 7));
                case 3: return desk.data(odd(random, 3));
                default: return desk.place(odd(random, 20), random.nextBoolean());
            }
        } catch (RuntimeException e) {
            boolean known = e.getClass() == IndexOutOfBoundsException.class
                || e.getClass() == IllegalStateException.class;
            Checks.yes("only the document's exceptions: " + e, known);
            return e.getClass() == IllegalStateException.class ? -1000 : -2000;
        }
    }

    private static void between(String what, PageDesk desk, int which, int least, int most) {
        int got = desk.look(which);
        if (got < least || got > most) {
            Checks.same(what + ": look(" + which + ") between " + least + " and " + most, got, least);
        }
    }

    private static void stateHolds(String what, PageDesk desk) {
        int width = desk.look(Checks.WIDTH);
        int height = desk.look(Checks.HEIGHT);
        between(what, desk, Checks.X, 0, width);
        between(what, desk, Checks.Y, 0, height);
        between(what, desk, Checks.LEFT, 0, width);
        between(what, desk, Checks.RIGHT, desk.look(Checks.LEFT), width);
        between(what, desk, Checks.TOP, 0, 122400);
        between(what, desk, Checks.LENGTH, 0, 122400);
        between(what, desk, Checks.V, 0, 122400);
        between(what, desk, Checks.LINE_END, 0, 3);
        between(what, desk, Checks.COPIES, 1, 99);
        between(what, desk, Checks.FONT, 0, 1);
        between(what, desk, Checks.PLACES, 0, 20);
        between(what, desk, Checks.OTHERS, 0, 16);
        if (desk.look(Checks.GLYPHS) > 0) {
            between(what, desk, Checks.DUE, 1, 1);
        }
    }
}
