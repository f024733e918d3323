import java.util.Random;

/** Made-up runs of calls, answered alike by PageDesk and by the tests' own model of the document. */
public final class ModelRunsTest {
    private static final int RUNS = 600;
    private static final int CALLS = 200;

    private static final String[] COMMANDS = {"&lA", "&lO", "&lX", "&lC", "&lD", "&lE", "&lF", "&lL", "&kH",
        "&kG", "&aL", "&aM", "&sC", "&fS", "&aC", "&aH", "&aR", "&aV", "*pX", "*pY", "&pX", "*bW", "(sW",
        "&pW", "&lW", "(sP", "&lB", "&aS", "*pM"};
    private static final String[] VALUES = {"", "0", "1", "2", "3", "4", "5", "6", "8", "9", "10", "12", "24",
        "26", "48", "60", "66", "79", "80", "81", "99", "100", "528", "700", "5000", "32767", "32768",
        "99999999999", "+0", "+1", "+7.5", "+300", "-0", "-1", "-.3333", "-12.34567", "-9999", "+", "-", ".",
        "2.", ".00009", "1.9999", "3.14159", "+-", "1.2.3", "1-", "_", " ", "\n"};
    /** Of DATA, few at a time: much of it would leave nothing else to a run. */
    private static final String[] COUNTS = {"", "0", "1", "2", "3.9", "+4", "-5", "9", "17", ".9", "40"};
    private static final String[] PIECES = {"A", "Hello", " ", "\b", "\t", "\n", "\f", "\r", "\u000e",
        "\u000f", "~E", "~=", "~9", "~", "~~", "~&", "~(", "~&l", "~*p", "\0", "\u007f", "\u0080", "\u00ff",
        "~Z", "~\u0000", "~ ", "abcdefgh", "zzzzzzzz"};
    private static final int[] EDGES = {-1, 0, 1, 719, 720, 721, 5759, 5760, 20000, 20001, 52200, 57599, 57600,
        57601, 61200, 78000, 78001, 79199, 79200, 79201, 122400, 130000, Integer.MAX_VALUE, Integer.MIN_VALUE};

    public static void main(String[] args) {
        for (int run = 0; run < RUNS; run++) {
            Random random = new Random(run);
            Desk real = new RealDesk(new PageDesk());
            Desk model = new Model();
            for (int call = 0; call < CALLS; call++) {
                long seed = random.nextLong();
                String want = call(model, new Random(seed));
                String got = call(real, new Random(seed));
                if (!alike("run " + run + ", call " + call + " " + want, real, model, got, want)) {
                    break;
                }
            }
        }
        Checks.finish();
    }

    private static boolean alike(String what, Desk real, Desk model, String got, String want) {
        String gotState = Snapshot.of(real);
        String wantState = Snapshot.of(model);
        boolean alike = got.equals(want) && gotState.equals(wantState);
        Checks.yes(what + "\n  answered " + got + gotState + "\n  due is   " + want + wantState + "\n  alike", alike);
        return alike;
    }

    private static <T> T one(T[] of, Random random) {
        return of[random.nextInt(of.length)];
    }

    private static int number(Random random, int bound) {
        int kind = random.nextInt(8);
        return kind == 0 ? random.nextInt() : kind < 3 ? random.nextInt(bound + 2) - 1 : random.nextInt(bound);
    }

    private static int edge(Random random) {
        return random.nextInt(3) == 0 ? random.nextInt(60000) : EDGES[random.nextInt(EDGES.length)];
    }

    /** The call itself and its answer, as a text. */
    private static String call(Desk desk, Random random) {
        int slot = number(random, 3);
        int font = number(random, 2);
        int b = random.nextInt(3) == 0 ? "AHelo zabc".charAt(random.nextInt(10)) : number(random, 256);
        int x = edge(random);
        int y = edge(random);
        switch (random.nextInt(24)) {
            case 0: return "advance(" + font + ", " + b + ", " + x + ") " + desk.advance(font, b, x);
            case 1: desk.due(); return "due()";
            case 2: case 3: desk.move(x, y); return "move(" + x + ", " + y + ")";
            case 4: return "keep(" + slot + ") " + desk.keep(slot);
            case 5: return "bring(" + slot + ") " + desk.bring(slot);
            case 6: return "take() " + desk.take();
            case 7: return "feed of " + slot + " " + desk.feed(random.nextLong(), slot);
            case 8: return "feed of " + font + " " + desk.feed(random.nextLong(), font);
            case 9: return "glyph " + Snapshot.answer(() -> desk.glyph(number(random, 60), number(random, 4)));
            case 10: return "page " + Snapshot.answer(() -> desk.page(number(random, 60), number(random, 4)));
            case 11: return "other " + Snapshot.answer(() -> desk.other(number(random, 7)));
            case 12: return "data " + Snapshot.answer(() -> desk.data(number(random, 3)));
            case 13: return "place " + Snapshot.answer(() -> desk.place(number(random, 20), random.nextBoolean()));
            case 14: return "look " + desk.look(number(random, 25));
            default: return fed(desk, text(random));
        }
    }

    private static String text(Random random) {
        if (random.nextInt(3) == 0) {
            return one(PIECES, random);
        }
        String name = one(COMMANDS, random);
        String end = name.substring(2);
        boolean hasData = end.equals("W") || name.equals("&pX");
        String value = one(hasData && random.nextInt(50) > 0 ? COUNTS : VALUES, random);
        StringBuilder text = new StringBuilder("~").append(name, 0, 2).append(value);
        if (random.nextInt(4) == 0) {
            text.append(end.toLowerCase()).append(one(COUNTS, random));
            end = random.nextBoolean() ? end : one(COMMANDS, random).substring(2);
        }
        return text.append(end).toString();
    }

    private static String fed(Desk desk, String text) {
        byte[] bytes = text.replace('~', (char) 27).getBytes(java.nio.charset.StandardCharsets.ISO_8859_1);
        for (byte b : bytes) {
            desk.feed(b, 1);
        }
        return "fed " + text;
    }
}
