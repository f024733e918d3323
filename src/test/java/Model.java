import java.math.BigInteger;
import java.util.ArrayList;
import java.util.List;
import java.util.Map;
import java.util.TreeMap;
import java.util.regex.Matcher;
import java.util.regex.Pattern;

/**
 * The document told a second time, with lists, maps and patterns and without any thought of room,
 * so that PageDesk can be held against it.
 */
final class Model implements Desk {
    private static final Pattern VALUE = Pattern.compile("([+-]?)([0-9]*)(?:\\.([0-9]*))?");
    private static final Map<Integer, int[]> SIZES = Map.of(1, new int[] {52200, 75600},
        2, new int[] {61200, 79200}, 3, new int[] {61200, 100800}, 6, new int[] {79200, 122400},
        26, new int[] {59528, 84189});
    /** What a slot keeps, but for the stack. */
    private static final List<String> KEPT = List.of("TOP", "LENGTH", "LEFT", "RIGHT", "H", "V", "X", "Y",
        "WRAP", "SKIP", "LINE END", "FONT");
    private static final String[] LOOKS = {"X", "Y", "LEFT", "RIGHT", "TOP", "LENGTH", "H", "V", "WIDTH",
        "HEIGHT", "SIZE", "ORIENTATION", "WRAP", "SKIP", "LINE END", "COPIES", "FONT"};

    private record Handed(int family, int group, long value, int end, boolean signed, int wanted,
            List<Integer> data) {
    }

    private record Slot(Map<String, Long> kept, List<long[]> stack) {
    }

    private final Map<String, Long> state = new TreeMap<>();
    private final Map<Integer, Slot> slots = new TreeMap<>();
    private final Map<Integer, Integer> told = new TreeMap<>();
    private final List<int[]> glyphs = new ArrayList<>();
    private final List<int[]> pages = new ArrayList<>();
    private final List<Handed> others = new ArrayList<>();
    private List<long[]> stack = new ArrayList<>();
    private boolean toldDue;
    private int bytes;

    /** The sequence under way, from its ESC to the end of its group; empty if there is none. */
    private String head = "";
    private boolean headIsWhole;
    private String field = "";
    private int dataLeft;
    /** Whose DATA come: null if it was lost, or if they are characters. */
    private Handed dataOf;
    private boolean dataAreCharacters;

    Model() {
        firstState();
    }

    private long get(String name) {
        return state.get(name);
    }

    private void set(String name, long value) {
        long most = name.equals("X") ? get("WIDTH") : name.equals("Y") ? get("HEIGHT") : Long.MAX_VALUE;
        state.put(name, Math.max(0, Math.min(value, most)));
    }

    private long home() {
        return get("TOP") + get("V") * 3 / 4;
    }

    private void firstState() {
        state.put("SIZE", 2L);
        state.put("ORIENTATION", 0L);
        state.put("H", 720L);
        state.put("V", 1200L);
        defaults();
        for (String none : new String[] {"WRAP", "SKIP", "LINE END", "FONT"}) {
            state.put(none, 0L);
        }
        state.put("COPIES", 1L);
        stack.clear();
    }

    private void defaults() {
        int[] sides = SIZES.get((int) get("SIZE"));
        boolean side = get("ORIENTATION") % 2 == 1;
        state.put("WIDTH", (long) (side ? sides[1] - 2880 : sides[0] - 3600));
        state.put("HEIGHT", (long) (side ? sides[0] : sides[1]));
        set("TOP", 3600);
        set("LENGTH", get("HEIGHT") - 7200);
        set("LEFT", 0);
        set("RIGHT", get("WIDTH"));
        set("X", 0);
        set("Y", home());
    }

    private void eject() {
        pages.add(new int[] {glyphs.size(), (int) get("SIZE"), (int) get("ORIENTATION"), (int) get("COPIES")});
        glyphs.clear();
        toldDue = false;
        set("Y", home());
    }

    private boolean isDue() {
        return toldDue || !glyphs.isEmpty();
    }

    private void ejectIfDue() {
        if (isDue()) {
            eject();
        }
    }

    // The stream

    private void byteComes(int b) {
        bytes++;
        if (dataLeft > 0) {
            dataLeft--;
            if (dataAreCharacters) {
                character(b);
            } else if (dataOf != null && dataBytes() < 4096) {
                dataOf.data.add(b);
            }
        } else if (b == 27) {
            begin("\33");
        } else if (head.isEmpty()) {
            if (b >= 32) {
                character(b);
            } else {
                control(b);
            }
        } else if (head.length() == 1) {
            behindEscape(b);
        } else if (!headIsWhole && b >= 96 && b <= 126) {
            head += (char) b;
            headIsWhole = true;
        } else {
            inField(b);
        }
    }

    private void begin(String start) {
        head = start;
        headIsWhole = false;
        field = "";
    }

    private int dataBytes() {
        return others.stream().mapToInt(other -> other.data.size()).sum();
    }

    private void behindEscape(int b) {
        if (b >= 33 && b <= 47) {
            head += (char) b;
            return;
        }
        begin("");
        if (b >= 48 && b <= 126) {
            shortOne((char) b);
        }
    }

    private void inField(int b) {
        headIsWhole = true;
        boolean last = b >= 64 && b <= 94;
        boolean more = b >= 96 && b <= 126;
        if (last || more) {
            String text = field;
            String of = head;
            field = "";
            if (last) {
                begin("");
            }
            fieldEnds(of.charAt(1), of.length() > 2 ? of.charAt(2) : 0, text, last ? b : b - 32);
        } else if (VALUE.matcher(field + (char) b).matches()) {
            field += (char) b;
        } else {
            begin("");
        }
    }

    private void fieldEnds(int family, int group, String text, int end) {
        Matcher parts = VALUE.matcher(text);
        parts.matches();
        String digits = "0" + parts.group(2);
        long whole = new BigInteger(digits).min(BigInteger.valueOf(32767)).longValue();
        String behind = (parts.group(3) == null ? "" : parts.group(3)) + "0000";
        long size = whole * 10000 + Integer.parseInt(behind.substring(0, 4));
        boolean negative = parts.group(1).equals("-");
        String name = "" + (char) family + (group == 0 ? "" : " " + (char) group) + " " + (char) end;
        dataAreCharacters = name.equals("& p X");
        dataLeft = (end == 'W' || dataAreCharacters) && !negative ? (int) whole : 0;
        dataOf = null;
        boolean signed = !parts.group(1).isEmpty();
        if (!dataAreCharacters && !command(name, negative ? -size : size, signed) && others.size() < 16) {
            dataOf = new Handed(family, group, negative ? -size : size, end, signed, dataLeft, new ArrayList<>());
            others.add(dataOf);
        }
    }

    // Characters and control codes

    private void character(int b) {
        long font = get("FONT");
        long step = told.getOrDefault((int) font * 1000 + b, -1);
        step = step == -1 ? get("H") : step;
        boolean fits = get("X") < get("RIGHT") && get("X") + step <= get("RIGHT");
        if (!fits && get("WRAP") == 0) {
            return;
        }
        if (!fits) {
            set("X", get("LEFT"));
            lineFeed(get("V"));
        }
        if (b != 32) {
            glyphs.add(new int[] {(int) get("X"), (int) get("Y"), b, (int) font});
        }
        set("X", get("X") + step);
    }

    private void control(int b) {
        long lineEnd = get("LINE END");
        if (b == 13 || (b == 10 || b == 12) && (lineEnd == 2 || lineEnd == 3)) {
            set("X", get("LEFT"));
        }
        if (b == 10 || b == 13 && (lineEnd == 1 || lineEnd == 3)) {
            lineFeed(get("V"));
        }
        if (b == 12) {
            eject();
        }
        if (b == 14 || b == 15) {
            set("FONT", 15 - b);
        }
        if (b == 8) {
            long least = get("X") >= get("LEFT") ? get("LEFT") : 0;
            set("X", Math.max(least, get("X") - get("H")));
        }
        if (b == 9) {
            tab();
        }
    }

    private void tab() {
        if (get("X") < get("LEFT")) {
            set("X", get("LEFT"));
        } else if (get("H") > 0) {
            long stop = get("LEFT");
            while (stop <= get("X")) {
                stop += 8 * get("H");
            }
            set("X", Math.min(stop, get("RIGHT")));
        }
    }

    private void lineFeed(long step) {
        long y = get("Y") + step;
        boolean beyondText = get("SKIP") == 1 && y > get("TOP") + get("LENGTH");
        if (y > get("HEIGHT") || beyondText) {
            eject();
        } else {
            set("Y", y);
        }
    }

    private void shortOne(char b) {
        if (b == 'E') {
            ejectIfDue();
            firstState();
        } else if (b == '9') {
            set("LEFT", 0);
            set("RIGHT", get("WIDTH"));
        } else if (b == '=') {
            lineFeed(get("V") / 2);
        }
    }

    // Commands

    private boolean command(String name, long value, boolean signed) {
        long v = Math.max(0, value);
        long n = v / 10000;
        switch (name) {
            case "& l A": if (SIZES.containsKey((int) n)) { paper("SIZE", n); } return true;
            case "& l O": if (n <= 3) { paper("ORIENTATION", n); } return true;
            case "& l X": set("COPIES", Math.max(1, Math.min(99, n))); return true;
            case "& l C": if (150 * v / 10000 <= get("HEIGHT")) { set("V", 150 * v / 10000); } return true;
            case "& l D": if (List.of(1L, 2L, 3L, 4L, 6L, 8L, 12L, 16L, 24L, 48L).contains(n)) {
                set("V", 7200 / n);
            } return true;
            case "& l E": if (n * get("V") <= get("HEIGHT")) { top(n * get("V")); } return true;
            case "& l F": if (get("TOP") + n * get("V") <= get("HEIGHT")) { set("LENGTH", n * get("V")); }
                return true;
            case "& l L": if (n <= 1) { set("SKIP", n); } return true;
            case "& k H": set("H", 60 * v / 10000); return true;
            case "& k G": if (n <= 3) { set("LINE END", n); } return true;
            case "& a L": left(n * get("H")); return true;
            case "& a M": right((n + 1) * get("H")); return true;
            case "& s C": if (n <= 1) { set("WRAP", 1 - n); } return true;
            case "& f S": stackCommand(n); return true;
            default: return cursorCommand(name, value, signed);
        }
    }

    private boolean cursorCommand(String name, long value, boolean signed) {
        switch (name) {
            case "& a C": set("X", (signed ? get("X") : 0) + value * get("H") / 10000); return true;
            case "& a H": set("X", (signed ? get("X") : 0) + 10 * value / 10000); return true;
            case "* p X": set("X", (signed ? get("X") : 0) + 24 * value / 10000); return true;
            case "& a R": set("Y", (signed ? get("Y") : home()) + value * get("V") / 10000); return true;
            case "& a V": set("Y", (signed ? get("Y") : get("TOP")) + 10 * value / 10000); return true;
            case "* p Y": set("Y", (signed ? get("Y") : get("TOP")) + 24 * value / 10000); return true;
            default: return false;
        }
    }

    private void paper(String what, long n) {
        ejectIfDue();
        set(what, n);
        defaults();
    }

    private void top(long top) {
        set("TOP", top);
        set("LENGTH", get("HEIGHT") - top - 3600);
    }

    private void left(long left) {
        if (left < get("RIGHT")) {
            set("LEFT", left);
            set("X", Math.max(get("X"), left));
        }
    }

    private void right(long right) {
        if (right > get("LEFT")) {
            set("RIGHT", Math.min(right, get("WIDTH")));
            set("X", Math.min(get("X"), get("RIGHT")));
        }
    }

    private void stackCommand(long n) {
        if (n == 0 && stack.size() < 20) {
            stack.add(new long[] {get("X"), get("Y")});
        }
        if (n == 1 && !stack.isEmpty()) {
            long[] place = stack.remove(stack.size() - 1);
            set("X", place[0]);
            set("Y", place[1]);
        }
    }

    // The face

    public boolean feed(long part, int n) {
        if (n < 1 || n > 8) {
            return false;
        }
        byte[] all = java.nio.ByteBuffer.allocate(8).putLong(part).array();
        for (int i = 8 - n; i < 8; i++) {
            byteComes(all[i] & 255);
        }
        return true;
    }

    public boolean advance(int font, int b, int units) {
        boolean can = (font == 0 || font == 1) && b >= 0 && b <= 255 && units >= -1 && units <= 20000;
        if (can) {
            told.put(font * 1000 + b, units);
        }
        return can;
    }

    public void due() {
        toldDue = true;
    }

    public void move(int x, int y) {
        set("X", x);
        set("Y", y);
    }

    public boolean keep(int slot) {
        if (slot < 0 || slot > 2) {
            return false;
        }
        Map<String, Long> kept = new TreeMap<>(state);
        kept.keySet().retainAll(KEPT);
        slots.put(slot, new Slot(kept, new ArrayList<>(stack)));
        return true;
    }

    public boolean bring(int slot) {
        Slot from = slots.get(slot);
        if (from == null) {
            return false;
        }
        state.putAll(from.kept);
        stack = new ArrayList<>(from.stack);
        set("LEFT", Math.min(get("LEFT"), get("WIDTH")));
        set("RIGHT", Math.min(get("RIGHT"), get("WIDTH")));
        set("X", get("X"));
        set("Y", get("Y"));
        return true;
    }

    private static void within(int i, int from, int to) {
        if (i < from || i >= to) {
            throw new IndexOutOfBoundsException();
        }
    }

    public int glyph(int i, int w) {
        within(i, 0, Math.min(6000, glyphs.size()));
        within(w, 0, 4);
        return glyphs.get(i)[w];
    }

    public int page(int i, int w) {
        within(i, Math.max(0, pages.size() - 40), pages.size());
        within(w, 0, 4);
        return pages.get(i)[w];
    }

    private Handed firstOther() {
        if (others.isEmpty()) {
            throw new IllegalStateException();
        }
        return others.get(0);
    }

    private int toCome(Handed other) {
        return other == dataOf ? dataLeft : 0;
    }

    public int other(int w) {
        Handed first = firstOther();
        within(w, 0, 7);
        return new int[] {first.family, first.group, (int) first.value, first.end, first.signed ? 1 : 0,
            first.data.size(), toCome(first)}[w];
    }

    public long data(int k) {
        List<Integer> data = firstOther().data;
        long eight = 0;
        for (long i = 8L * k; i < 8L * k + 8; i++) {
            eight = eight * 256 + (i >= 0 && i < data.size() ? data.get((int) i) : 0);
        }
        return eight;
    }

    public boolean take() {
        if (others.isEmpty() || toCome(others.get(0)) > 0) {
            return false;
        }
        others.remove(0);
        return true;
    }

    public int place(int i, boolean y) {
        within(i, 0, stack.size());
        return (int) stack.get(i)[y ? 1 : 0];
    }

    public int look(int which) {
        if (which >= 0 && which < LOOKS.length) {
            return (int) get(LOOKS[which]);
        }
        switch (which) {
            case 17: return stack.size();
            case 18: return Math.min(6000, glyphs.size());
            case 19: return glyphs.size() > 6000 ? 1 : 0;
            case 20: return pages.size();
            case 21: return others.size();
            case 22: return bytes;
            case 23: return head.isEmpty() && dataLeft == 0 ? 0 : 1;
            case 24: return isDue() ? 1 : 0;
            default: return -1;
        }
    }
}
