import java.util.List;

/** COMMANDS: the condition of each at its boundary, and on either side; what is refused changes nothing. */
public final class CommandEdgesTest {
    /** A state in which every command would be seen to do something. */
    private static final String RICH = "~&l26a2o9x10e40f8d1L~&a5l60M~&k11h2G~&s0C~&f0S\u000eA~&a8c9R";

    public static void main(String[] args) {
        size();
        orientation();
        copies();
        stepDown();
        linesPerInch();
        top();
        lengthBehindTop();
        length();
        skip();
        stepAcross();
        lineEnd();
        left();
        cursorAtNewLeft();
        right();
        rightAtWidth();
        cursorAtNewRight();
        wrap();
        stackWhenFull();
        stackWhenEmpty();
        stackOfOtherValues();
        negativeIsNone();
        wholePartCounts();
        quotientsTowardsNone();
        Checks.finish();
    }

    private static void refused(String set, String command) {
        Checks.alike(set + ", then " + command + " refused", Checks.fed(set + command), Checks.fed(set));
    }

    private static void taken(String set, String command, int which, long want) {
        Checks.looks(set + ", then " + command, Checks.fed(set + command), which, want);
    }

    /** "& l A: if n is a SIZE: eject IF DUE, it is the SIZE, DEFAULTS." */
    private static void size() {
        for (int n = 0; n <= 40; n++) {
            String command = "~&l" + n + "A";
            if (List.of(1, 2, 3, 6, 26).contains(n)) {
                taken(RICH, command, Checks.SIZE, n);
                taken(RICH, command, Checks.PAGES, 1);
                taken(RICH, command, Checks.LEFT, 0);
                taken(RICH, command, Checks.ORIENTATION, 2);
            } else {
                refused(RICH, command);
            }
        }
        for (String none : new String[] {"", "100", "258", "32767", "32768", "65537", "-2", ".9999", "+"}) {
            refused(RICH, "~&l" + none + "A");
        }
    }

    /** "& l O: if n is 0 .. 3: eject IF DUE, it is the ORIENTATION, DEFAULTS." */
    private static void orientation() {
        for (int n = 0; n <= 3; n++) {
            String command = "~&l" + n + "O";
            taken(RICH, command, Checks.ORIENTATION, n);
            taken(RICH, command, Checks.PAGES, 1);
            taken(RICH, command, Checks.LEFT, 0);
            taken(RICH, command, Checks.SIZE, 26);
        }
        for (String none : new String[] {"4", "5", "9", "32767", "32768", "65536"}) {
            refused(RICH, "~&l" + none + "O");
        }
    }

    /** "& l X: COPIES is n, but 1 .. 99." */
    private static void copies() {
        int[][] wants = {{0, 1}, {1, 1}, {2, 2}, {98, 98}, {99, 99}, {100, 99}, {32767, 99}, {99999, 99}, {-1, 1}};
        for (int[] want : wants) {
            taken("~&l50X", "~&l" + want[0] + "X", Checks.COPIES, want[1]);
        }
    }

    /** "& l C: V = 150 * v / 10000, if that is at most HEIGHT." */
    private static void stepDown() {
        taken("", "~&l527.9999C", Checks.V, 79199);
        taken("", "~&l528C", Checks.V, 79200);
        taken("", "~&l528.0066C", Checks.V, 79200);
        refused("", "~&l528.0067C");
        refused("", "~&l529C");
        refused("", "~&l32767.9999C");
        taken("~&l1a1O", "~&l347.9999C", Checks.V, 52199);
        taken("~&l1a1O", "~&l348C", Checks.V, 52200);
        refused("~&l1a1O", "~&l348.0067C");
        taken("~&l6A", "~&l816C", Checks.V, 122400);
        refused("~&l6A", "~&l816.0067C");
        taken("", "~&l0C", Checks.V, 0);
        taken("", "~&l.0066C", Checks.V, 0);
        taken("", "~&l.0067C", Checks.V, 1);
        taken("\n", "~&l6C", Checks.Y, 5700);
    }

    /** "& l D: if n is 1, 2, 3, 4, 6, 8, 12, 16, 24 or 48, V = 7200 / n." */
    private static void linesPerInch() {
        for (int n = 0; n <= 150; n++) {
            String command = "~&l" + n + "D";
            if (List.of(1, 2, 3, 4, 6, 8, 12, 16, 24, 48).contains(n)) {
                taken("~&l.02C", command, Checks.V, 7200 / n);
            } else {
                refused("~&l.02C", command);
            }
        }
        for (String none : new String[] {"", "32767", "65537", "65542", "-6", ".9999"}) {
            refused("~&l.02C", "~&l" + none + "D");
        }
    }

    // On a page of size 26 HEIGHT is 84189, which is 3 * 28063; 84188 is 4 * 21047, 84190 is 10 * 8419.
    private static final String STEP_3 = "~&l26a.02C";
    private static final String STEP_4 = "~&l26a.0267C";
    private static final String STEP_10 = "~&l26a.0667C";

    /** "& l E: if n * V is not above HEIGHT: TOP is that" */
    private static void top() {
        taken(STEP_4, "~&l21047E", Checks.TOP, 84188);
        taken(STEP_3, "~&l28063E", Checks.TOP, 84189);
        refused(STEP_10, "~&l8419E");
        refused(STEP_3, "~&l28064E");
        refused("~&l528C", "~&l32767E");
        taken("~&l528C", "~&l1E", Checks.TOP, 79200);
        refused("~&l528C", "~&l2E");
        taken("", "~&l0E", Checks.TOP, 0);
        taken("~&l0C", "~&l32767E", Checks.TOP, 0);
        taken("\n", "~&l9E", Checks.Y, 5700);
    }

    /** "LENGTH is HEIGHT - TOP - 3600, at least 0" */
    private static void lengthBehindTop() {
        // 80588 is 4 * 20147, 80589 is 3 * 26863, 80590 is 10 * 8059.
        taken(STEP_4, "~&l20147E", Checks.LENGTH, 1);
        taken(STEP_3, "~&l26863E", Checks.LENGTH, 0);
        taken(STEP_10, "~&l8059E", Checks.LENGTH, 0);
        taken(STEP_10, "~&l8059E", Checks.TOP, 80590);
        taken(STEP_3, "~&l28063E", Checks.LENGTH, 0);
        taken(STEP_3, "~&l0E", Checks.LENGTH, 80589);
    }

    /** "& l F: if TOP + n * V is not above HEIGHT, LENGTH is n * V." */
    private static void length() {
        taken(STEP_4, "~&l20147F", Checks.LENGTH, 80588);
        taken(STEP_3, "~&l26863F", Checks.LENGTH, 80589);
        refused(STEP_10, "~&l8059F");
        refused(STEP_3, "~&l26864F");
        refused("~&l528C", "~&l32767F");
        refused("~&l528C", "~&l1F");
        taken("~&l528C", "~&l0F", Checks.LENGTH, 0);
        taken("~&l66E", "~&l0F", Checks.LENGTH, 0);
        refused("~&l66E", "~&l1F");
        taken("", "~&l7F", Checks.TOP, 3600);
        // TOP kept on a larger page is below this one's foot: no LENGTH can be, not even 0.
        PageDesk desk = Checks.fed("~&l6a80E");
        desk.keep(0);
        Checks.feed(desk, "~&l2A");
        desk.bring(0);
        Checks.looks("TOP as kept", desk, Checks.TOP, 96000);
        Checks.feed(desk, "~&l0F");
        Checks.looks("LENGTH as kept", desk, Checks.LENGTH, 122400 - 96000 - 3600);
    }

    /** "& l L: SKIP if n is 1, not if 0." */
    private static void skip() {
        for (String before : new String[] {"~&l0L", "~&l1L"}) {
            taken(before, "~&l0L", Checks.SKIP, 0);
            taken(before, "~&lL", Checks.SKIP, 0);
            taken(before, "~&l1L", Checks.SKIP, 1);
            refused(before, "~&l2L");
            refused(before, "~&l3L");
            refused(before, "~&l32767L");
            refused(before, "~&l65537L");
        }
    }

    /** "& k H: H = 60 * v / 10000." */
    private static void stepAcross() {
        taken("", "~&k0H", Checks.H, 0);
        taken("", "~&k.0166H", Checks.H, 0);
        taken("", "~&k.0167H", Checks.H, 1);
        taken("", "~&k.0333H", Checks.H, 1);
        taken("", "~&k.0334H", Checks.H, 2);
        taken("", "~&k+12.5H", Checks.H, 750);
        taken("", "~&k32767.9999H", Checks.H, 1966079);
        taken("", "~&k99999H", Checks.H, 1966020);
        taken("ABC", "~&k1H", Checks.X, 2160);
    }

    /** "& k G: if n is 0 .. 3, the LINE END." */
    private static void lineEnd() {
        for (int before = 0; before <= 3; before++) {
            String set = "~&k" + before + "G";
            for (int n = 0; n <= 3; n++) {
                taken(set, "~&k" + n + "G", Checks.LINE_END, n);
            }
            for (String none : new String[] {"4", "5", "32767", "65536"}) {
                refused(set, "~&k" + none + "G");
            }
        }
    }

    // With H 1 a margin can be set to each unit.
    private static final String UNIT = "~&k.0167H";

    /** "& a L: if n * H is less than RIGHT, LEFT is that" */
    private static void left() {
        String set = UNIT + "~&a1000m200L";
        taken(set, "~&a1000L", Checks.LEFT, 1000);
        refused(set, "~&a1001L");
        refused(set, "~&a1002L");
        refused(set, "~&a32767L");
        taken(set, "~&a0L", Checks.LEFT, 0);
        taken("", "~&a79L", Checks.LEFT, 56880);
        refused("", "~&a80L");
        refused("~&k32767H", "~&a32767L");
        taken("~&a5L~&k0H", "~&a32767L", Checks.LEFT, 0);
        // Not less than RIGHT, and X left of LEFT: not moved.
        refused(set + "~&a100C", "~&a1001L");
    }

    /** "then X is LEFT if it is less" */
    private static void cursorAtNewLeft() {
        for (int more = -1; more <= 1; more++) {
            PageDesk desk = Checks.fed(UNIT);
            desk.move(500 + more, 9000);
            Checks.feed(desk, "~&a500L");
            Checks.cursor("X " + more + " from a new LEFT", desk, Math.max(500, 500 + more), 9000);
        }
        taken(UNIT + "~&a500l600C", "~&a400L", Checks.X, 600);
    }

    /** "& a M: if (n + 1) * H is above LEFT, RIGHT is that" */
    private static void right() {
        String set = UNIT + "~&a500l1999M";
        refused(set, "~&a498M");
        refused(set, "~&a499M");
        taken(set, "~&a500M", Checks.RIGHT, 501);
        taken(set, "~&a501M", Checks.RIGHT, 502);
        refused(set, "~&a0M");
        taken(UNIT, "~&a0M", Checks.RIGHT, 1);
        taken(UNIT, "~&aM", Checks.RIGHT, 1);
        refused("~&k0H", "~&a32767M");
        // Not above LEFT, and X right of RIGHT: not moved.
        refused(set + "~&a2500C", "~&a499M");
    }

    /** "but at most WIDTH" */
    private static void rightAtWidth() {
        // With H 2: 57598, 57600 and 57602.
        String set = "~&k.0334H~&a99M";
        taken(set, "~&a28798M", Checks.RIGHT, 57598);
        taken(set, "~&a28799M", Checks.RIGHT, 57600);
        taken(set, "~&a28800M", Checks.RIGHT, 57600);
        taken("~&a9M~&k32767.9999H", "~&a32767M", Checks.RIGHT, 57600);
        taken("~&l6a1O~&a9M", "~&a165M", Checks.RIGHT, 119520);
        taken("~&l6a1O~&a9M", "~&a166M", Checks.RIGHT, 119520);
        taken("~&l6a1O~&a9M", "~&a164M", Checks.RIGHT, 118800);
    }

    /** "then X is RIGHT if it is above that" */
    private static void cursorAtNewRight() {
        for (int more = -1; more <= 1; more++) {
            PageDesk desk = Checks.fed(UNIT);
            desk.move(500 + more, 9000);
            Checks.feed(desk, "~&a499M");
            Checks.cursor("X " + more + " from a new RIGHT", desk, Math.min(500, 500 + more), 9000);
        }
        taken(UNIT + "~&a499m300C", "~&a599M", Checks.X, 300);
    }

    /** "& s C: WRAP if n is 0, not if 1." */
    private static void wrap() {
        for (String before : new String[] {"~&s0C", "~&s1C"}) {
            taken(before, "~&s0C", Checks.WRAP, 1);
            taken(before, "~&sC", Checks.WRAP, 1);
            taken(before, "~&s1C", Checks.WRAP, 0);
            refused(before, "~&s2C");
            refused(before, "~&s32767C");
            refused(before, "~&s65536C");
        }
    }

    private static PageDesk stacked(int places) {
        PageDesk desk = new PageDesk();
        for (int i = 0; i < places; i++) {
            desk.move(10 + i, 1000 + i);
            Checks.feed(desk, "~&f0S");
        }
        return desk;
    }

    /** "n 0: X, Y go on the STACK, if it has fewer than 20" */
    private static void stackWhenFull() {
        for (int places = 18; places <= 20; places++) {
            PageDesk desk = stacked(places);
            desk.move(777, 888);
            Checks.feed(desk, "~&f0S");
            boolean fits = places < 20;
            Checks.looks("one more on " + places, desk, Checks.PLACES, fits ? places + 1 : 20);
            Checks.cursor("the cursor stays", desk, 777, 888);
            int top = desk.look(Checks.PLACES) - 1;
            Checks.same("the highest of " + places + " and one", desk.place(top, false), fits ? 777 : 29);
            Checks.same("the highest of " + places + " and one, Y", desk.place(top, true), fits ? 888 : 1019);
            Checks.same("the lowest", desk.place(0, false), 10);
            Checks.outside("none above", () -> desk.place(top + 1, false));
        }
        PageDesk desk = stacked(20);
        PageDesk same = stacked(20);
        Checks.feed(desk, "~&f0S");
        Checks.alike("full: nothing changes", desk, same);
        Checks.feed(desk, "~&f1S");
        desk.move(5, 6);
        Checks.feed(desk, "~&f0S");
        Checks.same("room again", desk.place(19, true), 6);
    }

    /** "1: they are taken from it, if it has any" */
    private static void stackWhenEmpty() {
        PageDesk desk = stacked(2);
        desk.move(777, 888);
        Checks.feed(desk, "~&f1S");
        Checks.cursor("the highest", desk, 11, 1001);
        Checks.looks("one is left", desk, Checks.PLACES, 1);
        Checks.outside("the highest is gone", () -> desk.place(1, false));
        Checks.feed(desk, "~&f1S");
        Checks.cursor("the last", desk, 10, 1000);
        Checks.outside("none is left", () -> desk.place(0, false));
        desk.move(777, 888);
        Checks.feed(desk, "~&f1S");
        Checks.cursor("empty: nothing changes", desk, 777, 888);
        Checks.looks("empty: nothing changes", desk, Checks.PLACES, 0);
        refused("", "~&f1S");
        refused("AB\n", "~&f1s1S");
    }

    private static void stackOfOtherValues() {
        for (String none : new String[] {"2", "3", "20", "32767", "65536", "65537"}) {
            refused(RICH, "~&f" + none + "S");
            refused("", "~&f" + none + "S");
        }
    }

    /** "(v is the VALUE, n its whole part, both 0 for a negative one where that is not said.)" */
    private static void negativeIsNone() {
        String[] commands = {"~&l#A", "~&l#O", "~&l#X", "~&l#C", "~&l#D", "~&l#E", "~&l#F", "~&l#L", "~&k#H",
            "~&k#G", "~&a#L", "~&a#M", "~&s#C", "~&f#S", "~&p#X"};
        for (String command : commands) {
            PageDesk want = Checks.fed(RICH + command.replace("#", "0"));
            for (String negative : new String[] {"-0", "-.5", "-1", "-2", "-3.75", "-26", "-32767", "-99999"}) {
                String text = command.replace("#", negative);
                Checks.alike(text, Checks.fed(RICH + text), want);
            }
        }
    }

    private static void wholePartCounts() {
        String[] commands = {"~&l#A", "~&l#O", "~&l#X", "~&l#D", "~&l#E", "~&l#F", "~&l#L", "~&k#G", "~&a#L",
            "~&a#M", "~&s#C", "~&f#S"};
        for (String command : commands) {
            for (int n = 0; n <= 4; n++) {
                String text = command.replace("#", n + ".9999");
                Checks.alike(text, Checks.fed(RICH + text), Checks.fed(RICH + command.replace("#", "" + n)));
                text = command.replace("#", "+" + n + ".0001");
                Checks.alike(text, Checks.fed(RICH + text), Checks.fed(RICH + command.replace("#", "" + n)));
            }
        }
    }

    /** "All products and quotients of VALUES are of longs, quotients rounded towards 0." */
    private static void quotientsTowardsNone() {
        // 720 * 14 / 10000 is 1.008, 720 * 13 / 10000 is 0.936; the same below 0.
        String[] texts = {"+.0014c", "+.0013c", "-.0013c", "-.0014c", "-.0027c", "-.0028c", "+.1h", "+.0999h",
            "-.0999h", "-.1h", "-.1999h"};
        int[] grows = {1, 0, 0, -1, -1, -2, 1, 0, 0, -1, -1};
        for (int i = 0; i < texts.length; i++) {
            PageDesk desk = new PageDesk();
            desk.move(1000, 2000);
            Checks.feed(desk, "~&a" + texts[i]);
            Checks.cursor(texts[i], desk, 1000 + grows[i], 2000);
        }
        String[] down = {"+.0009r", "+.0008r", "-.0008r", "-.0009r", "+.1v", "-.0999v", "-.1v"};
        int[] downs = {1, 0, 0, -1, 1, 0, -1};
        for (int i = 0; i < down.length; i++) {
            PageDesk desk = new PageDesk();
            desk.move(1000, 2000);
            Checks.feed(desk, "~&a" + down[i]);
            Checks.cursor(down[i], desk, 1000, 2000 + downs[i]);
        }
        // Products that an int has no room for
        taken("~&k32767.9999H", "~&a.0293C", Checks.X, 57600);
        taken("~&k32767.9999H", "~&a.0292C", Checks.X, 1966079L * 292 / 10000);
        taken("~&k32767.9999H", "~&a32767.9999C", Checks.X, 57600);
        taken("~&l528C", "~&a32767.9999R", Checks.Y, 79200);
        taken("~&l528C~&a99999V", "~&a-32767.9999R", Checks.Y, 0);
        taken("~&l528C~&a99999V", "~&a-.5R", Checks.Y, 39600);
        taken("", "~*p2399.9999X", Checks.X, 57599);
        taken("~&l500C", "~&a.0432R", Checks.Y, 3600 + 56250 + 3240);
    }
}
