/** The document's face, so that a PageDesk and the tests' own model of it can be asked alike. */
interface Desk {
    boolean feed(long part, int n);

    boolean advance(int font, int b, int units);

    void due();

    void move(int x, int y);

    boolean keep(int slot);

    boolean bring(int slot);

    int glyph(int i, int w);

    int page(int i, int w);

    int other(int w);

    long data(int k);

    boolean take();

    int place(int i, boolean y);

    int look(int which);
}
