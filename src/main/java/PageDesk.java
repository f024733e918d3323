import java.util.Arrays;

/**
 * The desk of a page printer: parts a stream of bytes into characters, control codes and
 * sequences, and keeps the page's state by them.
 */
public final class PageDesk {
    public static final int NONE = -1;

    private static final long ONE = 10000;
    private static final int SLOTS = 3;
    private static final int BYTES = 256;
    private static final int SPACE = 32;

    private static final int AMP_L = '&' << 8 | 'l';
    private static final int AMP_K = '&' << 8 | 'k';
    private static final int AMP_A = '&' << 8 | 'a';
    private static final int AMP_S = '&' << 8 | 's';
    private static final int AMP_F = '&' << 8 | 'f';
    private static final int AMP_P = '&' << 8 | 'p';
    private static final int STAR_P = '*' << 8 | 'p';

    private final Parser parser;
    private final Paper paper;
    private final Layout layout;
    private final Layout[] slots;
    private final boolean[] slotFilled;
    private final Sheet sheet;
    private final DonePages donePages;
    private final OtherQueue others;
    /** By font and byte; NONE where the step is the layout's own. */
    private final int[] toldSteps;
    private int bytesCome;

    public PageDesk() {
        parser = new Parser();
        paper = new Paper();
        layout = new Layout();
        slots = new Layout[SLOTS];
        for (int i = 0; i < SLOTS; i++) {
            slots[i] = new Layout();
        }
        slotFilled = new boolean[SLOTS];
        sheet = new Sheet();
        donePages = new DonePages();
        others = new OtherQueue();
        toldSteps = new int[2 * BYTES];
        Arrays.fill(toldSteps, NONE);
        reset();
    }

    public boolean feed(long part, int n) {
        if (n < 1 || n > 8) {
            return false;
        }
        for (int i = n - 1; i >= 0; i--) {
            byteComes((int) (part >>> (8 * i)) & 255);
        }
        return true;
    }

    public boolean advance(int font, int b, int units) {
        if (font < 0 || font > 1 || b < 0 || b >= BYTES || units < NONE || units > 20000) {
            return false;
        }
        toldSteps[font * BYTES + b] = units;
        return true;
    }

    public void due() {
        sheet.toldDue = true;
    }

    public void move(int x, int y) {
        setX(x);
        setY(y);
    }

    public boolean keep(int slot) {
        if (slot < 0 || slot >= SLOTS) {
            return false;
        }
        slots[slot].copyFrom(layout);
        slotFilled[slot] = true;
        return true;
    }

    public boolean bring(int slot) {
        if (slot < 0 || slot >= SLOTS || !slotFilled[slot]) {
            return false;
        }
        layout.copyFrom(slots[slot]);
        // The page may have become smaller since these were kept.
        layout.left = within(layout.left, 0, paper.width);
        layout.right = within(layout.right, 0, paper.width);
        setX(layout.x);
        setY(layout.y);
        return true;
    }

    public int glyph(int i, int w) throws IndexOutOfBoundsException {
        if (i < 0 || i >= sheet.count || w < 0 || w > 3) {
            throw new IndexOutOfBoundsException();
        }
        return sheet.partOf(i, w);
    }

    public int page(int i, int w) throws IndexOutOfBoundsException {
        if (!donePages.has(i) || w < 0 || w > 3) {
            throw new IndexOutOfBoundsException();
        }
        return donePages.partOf(i, w);
    }

    public int other(int w) throws IllegalStateException, IndexOutOfBoundsException {
        if (others.count == 0) {
            throw new IllegalStateException();
        }
        if (w < 0 || w > 6) {
            throw new IndexOutOfBoundsException();
        }
        return others.firstPart(w);
    }

    public long data(int k) throws IllegalStateException {
        if (others.count == 0) {
            throw new IllegalStateException();
        }
        return others.firstEightBytes(k);
    }

    public boolean take() {
        return others.removeFirst();
    }

    public int place(int i, boolean y) throws IndexOutOfBoundsException {
        if (i < 0 || i >= layout.depth) {
            throw new IndexOutOfBoundsException();
        }
        return y ? layout.stackY[i] : layout.stackX[i];
    }

    public int look(int which) {
        switch (which) {
            case 0: return layout.x;
            case 1: return layout.y;
            case 2: return layout.left;
            case 3: return layout.right;
            case 4: return layout.top;
            case 5: return layout.length;
            case 6: return layout.stepAcross;
            case 7: return layout.stepDown;
            case 8: return paper.width;
            case 9: return paper.height;
            case 10: return paper.size;
            case 11: return paper.orientation;
            case 12: return layout.wrap ? 1 : 0;
            case 13: return layout.skip ? 1 : 0;
            case 14: return layout.lineEnd;
            case 15: return paper.copies;
            case 16: return layout.font;
            case 17: return layout.depth;
            case 18: return sheet.count;
            case 19: return sheet.isOverrun() ? 1 : 0;
            case 20: return donePages.count;
            case 21: return others.count;
            case 22: return bytesCome;
            case 23: return parser.isUnderWay() ? 1 : 0;
            case 24: return sheet.isDue() ? 1 : 0;
            default: return NONE;
        }
    }

    private void byteComes(int b) {
        bytesCome++;
        switch (parser.accept(b)) {
            case Parser.CHARACTER: character(b); break;
            case Parser.CONTROL: controlCode(b); break;
            case Parser.SHORT: shortSequence(b); break;
            case Parser.COMMAND: command(); break;
            case Parser.OTHER_DATA: others.addByte(b); break;
            default: break;
        }
    }

    // The page

    private void reset() {
        paper.choose(2, 0);
        paper.copies = 1;
        layout.stepAcross = 720;
        layout.stepDown = 1200;
        layout.wrap = false;
        layout.skip = false;
        layout.lineEnd = 0;
        layout.font = 0;
        layout.depth = 0;
        setDefaults();
    }

    private void setDefaults() {
        layout.top = 3600;
        layout.length = paper.height - 7200;
        layout.left = 0;
        layout.right = paper.width;
        layout.x = 0;
        setY(layout.home());
    }

    private void changePaper(int size, int orientation) {
        if (sheet.isDue()) {
            eject();
        }
        paper.choose(size, orientation);
        setDefaults();
    }

    private void eject() {
        donePages.add(sheet.came, paper);
        sheet.clear();
        setY(layout.home());
    }

    private void setX(long x) {
        layout.x = within(x, 0, paper.width);
    }

    private void setY(long y) {
        layout.y = within(y, 0, paper.height);
    }

    private static int within(long value, int least, int most) {
        if (value < least) {
            return least;
        }
        return value > most ? most : (int) value;
    }

    // Characters and control codes

    private void character(int b) {
        int told = toldSteps[layout.font * BYTES + b];
        int step = told == NONE ? layout.stepAcross : told;
        if (layout.x >= layout.right || layout.x + step > layout.right) {
            if (!layout.wrap) {
                return;
            }
            carriageReturn();
            lineFeed(layout.stepDown);
        }
        if (b != SPACE) {
            sheet.put(layout.x, layout.y, b, layout.font);
        }
        // A step wider than the margins goes beyond RIGHT behind a wrap.
        setX(layout.x + step);
    }

    private void controlCode(int b) {
        switch (b) {
            case 8: backspace(); break;
            case 9: tab(); break;
            case 10: returnIfLineEndsSo(); lineFeed(layout.stepDown); break;
            case 12: returnIfLineEndsSo(); eject(); break;
            case 13: returnWithLineEnd(); break;
            case 14: layout.font = 1; break;
            case 15: layout.font = 0; break;
            default: break;
        }
    }

    private void backspace() {
        int least = layout.x < layout.left ? 0 : layout.left;
        setX(within((long) layout.x - layout.stepAcross, least, paper.width));
    }

    private void tab() {
        if (layout.x < layout.left) {
            layout.x = layout.left;
            return;
        }
        long stop = 8L * layout.stepAcross;
        if (stop > 0) {
            long stops = (layout.x - layout.left) / stop + 1;
            setX(within(layout.left + stop * stops, 0, layout.right));
        }
    }

    private void returnIfLineEndsSo() {
        if (layout.lineEnd >= 2) {
            carriageReturn();
        }
    }

    private void returnWithLineEnd() {
        carriageReturn();
        if (layout.lineEnd == 1 || layout.lineEnd == 3) {
            lineFeed(layout.stepDown);
        }
    }

    private void carriageReturn() {
        layout.x = layout.left;
    }

    private void lineFeed(int step) {
        int below = layout.y + step;
        if (below > paper.height || (layout.skip && below > layout.top + layout.length)) {
            eject();
        } else {
            layout.y = below;
        }
    }

    // Sequences

    private void shortSequence(int b) {
        switch (b) {
            case 'E':
                if (sheet.isDue()) {
                    eject();
                }
                reset();
                break;
            case '9':
                layout.left = 0;
                layout.right = paper.width;
                break;
            case '=':
                lineFeed(layout.stepDown / 2);
                break;
            default:
                break;
        }
    }

    private void command() {
        long v = parser.value < 0 ? 0 : parser.value;
        long n = v / ONE;
        boolean known;
        switch (parser.family << 8 | parser.group) {
            case AMP_L: known = pageCommand(v, n); break;
            case AMP_K: known = spacingCommand(v, n); break;
            case AMP_A: known = marginCommand(n) || cursorCommand(); break;
            case AMP_S: known = wrapCommand(n); break;
            case AMP_F: known = stackCommand(n); break;
            // What it does, its DATA do.
            case AMP_P: known = parser.hasText(); break;
            case STAR_P: known = dotCommand(); break;
            default: known = false; break;
        }
        if (!known) {
            others.add(parser);
        }
    }

    private boolean pageCommand(long v, long n) {
        switch (parser.end) {
            case 'A':
                if (Paper.isSize(n)) {
                    changePaper((int) n, paper.orientation);
                }
                return true;
            case 'O':
                if (n <= 3) {
                    changePaper(paper.size, (int) n);
                }
                return true;
            case 'X':
                paper.copies = within(n, 1, 99);
                return true;
            case 'C':
                setStepDown(150 * v / ONE);
                return true;
            case 'D':
                setLinesPerInch((int) n);
                return true;
            case 'E':
                setTop(n * layout.stepDown);
                return true;
            case 'F':
                setLength(n * layout.stepDown);
                return true;
            case 'L':
                if (n <= 1) {
                    layout.skip = n == 1;
                }
                return true;
            default:
                return false;
        }
    }

    private void setStepDown(long step) {
        if (step <= paper.height) {
            layout.stepDown = (int) step;
        }
    }

    private void setLinesPerInch(int lines) {
        switch (lines) {
            case 1: case 2: case 3: case 4: case 6:
            case 8: case 12: case 16: case 24: case 48:
                layout.stepDown = 7200 / lines;
                break;
            default:
                break;
        }
    }

    private void setTop(long top) {
        if (top <= paper.height) {
            layout.top = (int) top;
            layout.length = within(paper.height - top - 3600, 0, paper.height);
        }
    }

    private void setLength(long length) {
        if (layout.top + length <= paper.height) {
            layout.length = (int) length;
        }
    }

    private boolean spacingCommand(long v, long n) {
        switch (parser.end) {
            case 'H':
                layout.stepAcross = (int) (60 * v / ONE);
                return true;
            case 'G':
                if (n <= 3) {
                    layout.lineEnd = (int) n;
                }
                return true;
            default:
                return false;
        }
    }

    private boolean marginCommand(long n) {
        switch (parser.end) {
            case 'L':
                setLeft(n * layout.stepAcross);
                return true;
            case 'M':
                setRight((n + 1) * layout.stepAcross);
                return true;
            default:
                return false;
        }
    }

    private void setLeft(long left) {
        if (left < layout.right) {
            layout.left = (int) left;
            if (layout.x < layout.left) {
                layout.x = layout.left;
            }
        }
    }

    private void setRight(long right) {
        if (right > layout.left) {
            layout.right = within(right, 0, paper.width);
            if (layout.x > layout.right) {
                layout.x = layout.right;
            }
        }
    }

    private boolean wrapCommand(long n) {
        if (parser.end != 'C') {
            return false;
        }
        if (n <= 1) {
            layout.wrap = n == 0;
        }
        return true;
    }

    private boolean stackCommand(long n) {
        if (parser.end != 'S') {
            return false;
        }
        if (n == 0) {
            layout.push();
        } else if (n == 1 && layout.depth > 0) {
            layout.depth--;
            setX(layout.stackX[layout.depth]);
            setY(layout.stackY[layout.depth]);
        }
        return true;
    }

    private boolean cursorCommand() {
        switch (parser.end) {
            case 'C': goAcross(layout.stepAcross); return true;
            case 'H': goAcross(10); return true;
            case 'R': goDown(layout.home(), layout.stepDown); return true;
            case 'V': goDown(layout.top, 10); return true;
            default: return false;
        }
    }

    private boolean dotCommand() {
        switch (parser.end) {
            case 'X': goAcross(24); return true;
            case 'Y': goDown(layout.top, 24); return true;
            default: return false;
        }
    }

    private void goAcross(long unit) {
        int from = parser.signed ? layout.x : 0;
        setX(from + parser.value * unit / ONE);
    }

    private void goDown(int start, long unit) {
        int from = parser.signed ? layout.y : start;
        setY(from + parser.value * unit / ONE);
    }

    /** Parts the stream: tells of each byte what it is, and of a field that ends, its command. */
    private static final class Parser {
        static final int NOTHING = 0;
        static final int CHARACTER = 1;
        static final int CONTROL = 2;
        static final int SHORT = 3;
        static final int COMMAND = 4;
        static final int OTHER_DATA = 5;

        private static final int ESC = 27;
        private static final int MOST_WHOLE = 32767;

        private static final int IN_TEXT = 0;
        private static final int BEHIND_ESC = 1;
        private static final int BEHIND_FAMILY = 2;
        private static final int IN_FIELD = 3;

        private static final int AT_START = 0;
        private static final int BEHIND_SIGN = 1;
        private static final int IN_WHOLE = 2;
        private static final int IN_FRACTION = 3;

        // The latest command
        int family;
        int group;
        int value;
        int end;
        boolean signed;
        int dataLeft;

        private int state;
        // The field under way
        private int valueState;
        private boolean plus;
        private boolean minus;
        private int whole;
        private int fraction;
        private int nextDigitWorth;

        boolean isUnderWay() {
            return state != IN_TEXT || dataLeft > 0;
        }

        boolean hasText() {
            return family == '&' && group == 'p' && end == 'X';
        }

        int accept(int b) {
            if (dataLeft > 0) {
                dataLeft--;
                return hasText() ? CHARACTER : OTHER_DATA;
            }
            if (b == ESC) {
                state = BEHIND_ESC;
                return NOTHING;
            }
            switch (state) {
                case BEHIND_ESC: return behindEsc(b);
                case BEHIND_FAMILY: return behindFamily(b);
                case IN_FIELD: return inField(b);
                default: return b >= SPACE ? CHARACTER : CONTROL;
            }
        }

        private int behindEsc(int b) {
            if (b >= 48 && b <= 126) {
                state = IN_TEXT;
                return SHORT;
            }
            if (b >= 33 && b <= 47) {
                family = b;
                group = 0;
                state = BEHIND_FAMILY;
                return NOTHING;
            }
            state = IN_TEXT;
            return NOTHING;
        }

        private int behindFamily(int b) {
            state = IN_FIELD;
            beginField();
            if (b >= 96 && b <= 126) {
                group = b;
                return NOTHING;
            }
            return inField(b);
        }

        private void beginField() {
            valueState = AT_START;
            plus = false;
            minus = false;
            whole = 0;
            fraction = 0;
            nextDigitWorth = 1000;
        }

        private int inField(int b) {
            if (b >= 96 && b <= 126) {
                endField(b - 32);
                return COMMAND;
            }
            if (b >= 64 && b <= 94) {
                state = IN_TEXT;
                endField(b);
                return COMMAND;
            }
            if (!belongsToValue(b)) {
                state = IN_TEXT;
            }
            return NOTHING;
        }

        private boolean belongsToValue(int b) {
            if (b >= '0' && b <= '9') {
                digit(b - '0');
                return true;
            }
            if (b == '.' && valueState != IN_FRACTION) {
                valueState = IN_FRACTION;
                return true;
            }
            if ((b == '+' || b == '-') && valueState == AT_START) {
                valueState = BEHIND_SIGN;
                plus = b == '+';
                minus = b == '-';
                return true;
            }
            return false;
        }

        private void digit(int d) {
            if (valueState == IN_FRACTION) {
                fraction += d * nextDigitWorth;
                nextDigitWorth /= 10;
            } else {
                valueState = IN_WHOLE;
                whole = Math.min(MOST_WHOLE, whole * 10 + d);
            }
        }

        private void endField(int endByte) {
            int size = whole * 10000 + fraction;
            value = minus ? -size : size;
            signed = plus || minus;
            end = endByte;
            dataLeft = (end == 'W' || hasText()) && !minus ? whole : 0;
            beginField();
        }
    }

    /** What the page is printed on, and how it lies. */
    private static final class Paper {
        int size;
        int orientation;
        int copies;
        int width;
        int height;

        static boolean isSize(long n) {
            return n == 1 || n == 2 || n == 3 || n == 6 || n == 26;
        }

        void choose(int newSize, int newOrientation) {
            size = newSize;
            orientation = newOrientation;
            boolean onItsSide = orientation == 1 || orientation == 3;
            width = onItsSide ? longSide() - 2880 : shortSide() - 3600;
            height = onItsSide ? shortSide() : longSide();
        }

        private int shortSide() {
            switch (size) {
                case 1: return 52200;
                case 6: return 79200;
                case 26: return 59528;
                default: return 61200;
            }
        }

        private int longSide() {
            switch (size) {
                case 1: return 75600;
                case 3: return 100800;
                case 6: return 122400;
                case 26: return 84189;
                default: return 79200;
            }
        }
    }

    /** The part of the state that a slot keeps. */
    private static final class Layout {
        static final int MOST_PLACES = 20;

        int top;
        int length;
        int left;
        int right;
        int stepAcross;
        int stepDown;
        int x;
        int y;
        boolean wrap;
        boolean skip;
        int lineEnd;
        int font;
        int depth;
        final int[] stackX = new int[MOST_PLACES];
        final int[] stackY = new int[MOST_PLACES];

        int home() {
            return top + stepDown * 3 / 4;
        }

        void push() {
            if (depth < MOST_PLACES) {
                stackX[depth] = x;
                stackY[depth] = y;
                depth++;
            }
        }

        void copyFrom(Layout from) {
            top = from.top;
            length = from.length;
            left = from.left;
            right = from.right;
            stepAcross = from.stepAcross;
            stepDown = from.stepDown;
            x = from.x;
            y = from.y;
            wrap = from.wrap;
            skip = from.skip;
            lineEnd = from.lineEnd;
            font = from.font;
            depth = from.depth;
            System.arraycopy(from.stackX, 0, stackX, 0, MOST_PLACES);
            System.arraycopy(from.stackY, 0, stackY, 0, MOST_PLACES);
        }
    }

    /** The glyphs of the page under way. */
    private static final class Sheet {
        static final int ROOM = 6000;

        /** One long a glyph, so that a desk stays small: X and Y have 17 bits, byte 8, font 1. */
        private final long[] glyphs = new long[ROOM];
        int count;
        int came;
        boolean toldDue;

        boolean isOverrun() {
            return came > count;
        }

        boolean isDue() {
            return toldDue || count > 0;
        }

        void clear() {
            count = 0;
            came = 0;
            toldDue = false;
        }

        void put(int x, int y, int b, int font) {
            came++;
            if (count < ROOM) {
                glyphs[count] = (long) x << 26 | (long) y << 9 | (long) b << 1 | font;
                count++;
            }
        }

        int partOf(int i, int w) {
            long glyph = glyphs[i];
            switch (w) {
                case 0: return (int) (glyph >>> 26);
                case 1: return (int) (glyph >>> 9) & 0x1FFFF;
                case 2: return (int) (glyph >>> 1) & 255;
                default: return (int) glyph & 1;
            }
        }
    }

    /** The latest pages that are done. */
    private static final class DonePages {
        static final int ROOM = 40;
        static final int PARTS = 4;

        private final int[] parts = new int[ROOM * PARTS];
        int count;

        void add(int glyphs, Paper paper) {
            int at = Math.floorMod(count, ROOM) * PARTS;
            parts[at] = glyphs;
            parts[at + 1] = paper.size;
            parts[at + 2] = paper.orientation;
            parts[at + 3] = paper.copies;
            count++;
        }

        boolean has(int i) {
            return i >= 0 && i < count && i >= count - ROOM;
        }

        int partOf(int i, int w) {
            return parts[Math.floorMod(i, ROOM) * PARTS + w];
        }
    }

    /** One command that is handed on. */
    private static final class Other {
        int family;
        int group;
        int value;
        int end;
        boolean signed;
        int dataStored;
        int dataToCome;
    }

    /** The commands that are handed on and were not taken, with their data, in rings. */
    private static final class OtherQueue {
        static final int ROOM = 16;
        static final int DATA_ROOM = 4096;

        private final Other[] row = new Other[ROOM];
        private final byte[] store = new byte[DATA_ROOM];
        int count;
        private int first;
        private int storeStart;
        private int stored;
        private boolean latestIsLost;

        OtherQueue() {
            for (int i = 0; i < ROOM; i++) {
                row[i] = new Other();
            }
        }

        void add(Parser parser) {
            latestIsLost = count >= ROOM;
            if (latestIsLost) {
                return;
            }
            Other added = row[(first + count) % ROOM];
            added.family = parser.family;
            added.group = parser.group;
            added.value = parser.value;
            added.end = parser.end;
            added.signed = parser.signed;
            added.dataStored = 0;
            added.dataToCome = parser.dataLeft;
            count++;
        }

        void addByte(int b) {
            if (latestIsLost || count == 0) {
                return;
            }
            Other latest = row[(first + count - 1) % ROOM];
            latest.dataToCome--;
            if (stored < DATA_ROOM) {
                store[(storeStart + stored) % DATA_ROOM] = (byte) b;
                stored++;
                latest.dataStored++;
            }
        }

        int firstPart(int w) {
            Other other = row[first];
            switch (w) {
                case 0: return other.family;
                case 1: return other.group;
                case 2: return other.value;
                case 3: return other.end;
                case 4: return other.signed ? 1 : 0;
                case 5: return other.dataStored;
                default: return other.dataToCome;
            }
        }

        long firstEightBytes(int k) {
            // Looked at first, since 8 * k could wrap around.
            if (k < 0 || k >= DATA_ROOM / 8) {
                return 0;
            }
            long eight = 0;
            for (int i = 8 * k; i < 8 * k + 8; i++) {
                int b = i < row[first].dataStored ? store[(storeStart + i) % DATA_ROOM] & 255 : 0;
                eight = eight << 8 | b;
            }
            return eight;
        }

        boolean removeFirst() {
            if (count == 0 || row[first].dataToCome > 0) {
                return false;
            }
            storeStart = (storeStart + row[first].dataStored) % DATA_ROOM;
            stored -= row[first].dataStored;
            first = (first + 1) % ROOM;
            count--;
            return true;
        }
    }
}
