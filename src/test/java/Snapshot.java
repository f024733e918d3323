import java.util.function.LongSupplier;

/** All that a desk answers without being changed, as one text. */
final class Snapshot {
    private Snapshot() {
    }

    static String of(Desk desk) {
        StringBuilder text = new StringBuilder();
        for (int which = -1; which <= 25; which++) {
            text.append(" look").append(which).append('=').append(desk.look(which));
        }
        glyphs(desk, text);
        pages(desk, text);
        firstOther(desk, text);
        places(desk, text);
        return text.toString();
    }

    static String withoutBytes(PageDesk desk) {
        return of(new RealDesk(desk)).replaceFirst(" look22=\\d+", "");
    }

    static String answer(LongSupplier call) {
        try {
            return Long.toString(call.getAsLong());
        } catch (RuntimeException e) {
            return e.getClass().getSimpleName();
        }
    }

    private static void glyphs(Desk desk, StringBuilder text) {
        int count = desk.look(Checks.GLYPHS);
        for (int i = -1; i <= count; i++) {
            text.append(" glyph").append(i).append('=');
            for (int w = 0; w < 4; w++) {
                int part = w;
                int glyph = i;
                text.append(answer(() -> desk.glyph(glyph, part))).append(',');
            }
        }
    }

    private static void pages(Desk desk, StringBuilder text) {
        int count = desk.look(Checks.PAGES);
        for (int i = Math.max(-1, count - 42); i <= count; i++) {
            text.append(" page").append(i).append('=');
            for (int w = 0; w < 4; w++) {
                int part = w;
                int page = i;
                text.append(answer(() -> desk.page(page, part))).append(',');
            }
        }
    }

    private static void firstOther(Desk desk, StringBuilder text) {
        text.append(" other=");
        for (int w = -1; w <= 7; w++) {
            int part = w;
            text.append(answer(() -> desk.other(part))).append(',');
        }
        int rows = desk.look(Checks.OTHERS) == 0 ? 0 : desk.other(5) / 8 + 1;
        for (int k = -1; k <= rows; k++) {
            int row = k;
            text.append(" data").append(k).append('=').append(answer(() -> desk.data(row)));
        }
    }

    private static void places(Desk desk, StringBuilder text) {
        int count = desk.look(Checks.PLACES);
        for (int i = -1; i <= count; i++) {
            int place = i;
            text.append(" place").append(i).append('=').append(answer(() -> desk.place(place, false)));
            text.append(',').append(answer(() -> desk.place(place, true)));
        }
    }
}
