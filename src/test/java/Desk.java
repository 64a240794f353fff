/** An AtlasDesk whose calls are counted: what it answers behind the 512th one is free. */
final class Desk {
    private static final int MOST_CALLS = 512;

    private final AtlasDesk desk = new AtlasDesk();
    private int calls = 0;

    private AtlasDesk counted() {
        calls++;
        if (calls > MOST_CALLS) {
            throw new AssertionError("a test makes more than 512 calls of one object");
        }
        return desk;
    }

    int callsLeft() {
        return MOST_CALLS - calls;
    }

    boolean corner(int x, int y) {
        return counted().corner(x, y);
    }

    int feature(int number, int kind, int sort, int least, long word) {
        return counted().feature(number, kind, sort, least, word);
    }

    boolean drop(int number) {
        return counted().drop(number);
    }

    int edition() {
        return counted().edition();
    }

    int tile(int edition, int z, int tx, int ty) {
        return counted().tile(edition, z, tx, ty);
    }

    int octet(int i) {
        return counted().octet(i);
    }

    void region(int x0, int y0, int x1, int y1, int zoom) {
        counted().region(x0, y0, x1, y1, zoom);
    }

    int extract(int edition) {
        return counted().extract(edition);
    }

    int packed(int k, int what) {
        return counted().packed(k, what);
    }

    int take(int z, int tx, int ty) {
        return counted().take(z, tx, ty);
    }

    int pack(int what) {
        return counted().pack(what);
    }

    int difference(int from, int to) {
        return counted().difference(from, to);
    }

    int differs(int k, int what) {
        return counted().differs(k, what);
    }

    int apply() {
        return counted().apply();
    }

    int lookUp(long word, int k) {
        return counted().lookUp(word, k);
    }

    int near(int x, int y, int sort, int k) {
        return counted().near(x, y, sort, k);
    }
}
