/** A PageDesk behind the tests' interface. */
final class RealDesk implements Desk {
    private final PageDesk desk;

    RealDesk(PageDesk desk) {
        this.desk = desk;
    }

    public boolean feed(long part, int n) {
        return desk.feed(part, n);
    }

    public boolean advance(int font, int b, int units) {
        return desk.advance(font, b, units);
    }

    public void due() {
        desk.due();
    }

    public void move(int x, int y) {
        desk.move(x, y);
    }

    public boolean keep(int slot) {
        return desk.keep(slot);
    }

    public boolean bring(int slot) {
        return desk.bring(slot);
    }

    public int glyph(int i, int w) {
        return desk.glyph(i, w);
    }

    public int page(int i, int w) {
        return desk.page(i, w);
    }

    public int other(int w) {
        return desk.other(w);
    }

    public long data(int k) {
        return desk.data(k);
    }

    public boolean take() {
        return desk.take();
    }

    public int place(int i, boolean y) {
        return desk.place(i, y);
    }

    public int look(int which) {
        return desk.look(which);
    }
}
