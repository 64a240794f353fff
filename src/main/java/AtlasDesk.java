import java.util.NoSuchElementException;

/**
 * Maps for the way: points, lines and areas are cut into tiles for five zooms, tiles of a region
 * are packed, two editions are told apart tile by tile and a pack is brought from one to the other;
 * names are looked up, and what is near.
 *
 * <p>Every row is made in a constructor and used again, so that no later call makes an object.
 */
public final class AtlasDesk {
    public static final int NONE = -1;

    private static final int WORLD_SIDE = 4096;
    private static final int WORLD_BITS = 12;
    private static final int LAST_ZOOM = 4;
    private static final int TILE_SIDE = 256;
    private static final int MARGIN = 8;
    private static final int ALL_TILES = 341;

    private static final int POINT = 0;
    private static final int LINE = 1;
    private static final int AREA = 2;
    private static final int LAST_NUMBER = 9999;
    private static final int LAST_CLASS = 9;
    private static final int MOST_CORNERS = 12;
    private static final int MOST_FEATURES = 24;
    private static final int MOST_LETTERS = 8;

    private static final int KEPT_EDITIONS = 2;
    private static final int MOST_TILES = 100;
    private static final int MOST_STORED = 5000;

    private static final int REMOVED = 0;
    private static final int ADDED = 1;
    private static final int CHANGED = 2;

    // A side that cuts a ring leaves at most half as many corners more: 12, 18, 27, 40, 60. A line
    // has at most two for each of its 11 edges.
    private static final int MOST_CUT_CORNERS = 60;
    // A ring's number takes two bytes, its kind and its two counts one each, a corner four; a line
    // has more pieces, but so few corners that it is shorter.
    private static final int MOST_TILE_BYTES = MOST_FEATURES * (5 + 4 * MOST_CUT_CORNERS);

    private final Feature told = new Feature();
    private final Edition present = new Edition();
    private final Edition[] kept = new Edition[KEPT_EDITIONS];
    private int closed;
    private final Packer packer = new Packer();
    private final Octets tileInHand = new Octets();
    private final Region regionInForce = new Region();
    private boolean regionSet;
    // What is made anew is made in the spare one, so that a refusal leaves the old one as it was.
    private Pack packInHand = new Pack();
    private Pack sparePack = new Pack();
    private boolean packSet;
    private Difference differenceTold = new Difference();
    private Difference spareDifference = new Difference();
    private boolean differenceSet;

    public AtlasDesk() {
        for (int i = 0; i < KEPT_EDITIONS; i++) {
            kept[i] = new Edition();
        }
    }

    public boolean corner(int x, int y) {
        return told.addCorner(x, y);
    }

    public int feature(int number, int kind, int sort, int least, long word)
            throws IllegalArgumentException, IllegalStateException {
        told.describe(number, kind, sort, least, word);
        boolean sound = told.isDescribed() && told.hasSoundCorners();
        boolean placed = sound && present.put(told);
        told.count = 0;
        if (!sound) {
            throw new IllegalArgumentException("not a feature");
        }
        if (!placed) {
            throw new IllegalStateException("there are 24 features");
        }
        return present.count;
    }

    public boolean drop(int number) {
        return present.remove(number);
    }

    public int edition() {
        closed++;
        kept[closed % KEPT_EDITIONS].copyFrom(present);
        return closed;
    }

    public int tile(int edition, int z, int tx, int ty) throws IndexOutOfBoundsException {
        Edition found = editionAt(edition);
        if (found == null || !isTile(z, tx, ty)) {
            throw new IndexOutOfBoundsException("no such edition or tile");
        }
        packer.maker.prepare(found, z);
        packer.maker.make(tx, ty, tileInHand);
        return tileInHand.size;
    }

    public int octet(int i) {
        return i >= 0 && i < tileInHand.size ? tileInHand.data[i] & 255 : NONE;
    }

    public void region(int x0, int y0, int x1, int y1, int zoom) throws IllegalArgumentException {
        boolean ordered = x0 <= x1 && y0 <= y1;
        if (!ordered || !isOfWorld(x0, y0) || !isOfWorld(x1, y1) || !isZoom(zoom)) {
            throw new IllegalArgumentException("not a region");
        }
        regionInForce.set(x0, y0, x1, y1, zoom);
        regionSet = true;
        differenceSet = false;
    }

    public int extract(int edition) throws IndexOutOfBoundsException, IllegalStateException {
        Edition found = editionAt(edition);
        if (found == null) {
            throw new IndexOutOfBoundsException("no such edition");
        }
        if (!regionSet || !packer.fill(sparePack, found, edition, regionInForce)) {
            throw new IllegalStateException("no region, or the pack is refused");
        }
        Pack old = packInHand;
        packInHand = sparePack;
        sparePack = old;
        packSet = true;
        return packInHand.tiles;
    }

    public int packed(int k, int what) {
        if (!packSet || k < 0 || k >= packInHand.tiles) {
            return NONE;
        }
        switch (what) {
            case 0:
                return packInHand.zooms[k];
            case 1:
                return packInHand.columns[k];
            case 2:
                return packInHand.rows[k];
            case 3:
                return packInHand.sizes[k];
            case 4:
                return packInHand.firsts[k];
            default:
                return NONE;
        }
    }

    public int take(int z, int tx, int ty) {
        tileInHand.size = 0;
        if (packSet) {
            packInHand.copyTile(z, tx, ty, tileInHand);
        }
        return tileInHand.size;
    }

    public int pack(int what) {
        if (!packSet) {
            return NONE;
        }
        switch (what) {
            case 0:
                return packInHand.tiles;
            case 1:
                return packInHand.stored;
            case 2:
                return packInHand.shared;
            case 3:
                return packInHand.edition;
            case 4:
                return packInHand.features.count;
            default:
                return NONE;
        }
    }

    public int difference(int from, int to)
            throws IndexOutOfBoundsException, IllegalStateException {
        Edition first = editionAt(from);
        Edition second = editionAt(to);
        if (first == null || second == null) {
            throw new IndexOutOfBoundsException("no such edition");
        }
        if (!regionSet
                || !packer.fill(spareDifference.first, first, from, regionInForce)
                || !packer.fill(spareDifference.second, second, to, regionInForce)) {
            throw new IllegalStateException("no region, or a pack is refused");
        }
        spareDifference.compare();
        Difference old = differenceTold;
        differenceTold = spareDifference;
        spareDifference = old;
        differenceSet = true;
        return differenceTold.count;
    }

    public int differs(int k, int what) {
        if (!differenceSet || k < 0 || k >= differenceTold.count) {
            return NONE;
        }
        switch (what) {
            case 0:
                return differenceTold.changes[k];
            case 1:
                return differenceTold.zooms[k];
            case 2:
                return differenceTold.columns[k];
            case 3:
                return differenceTold.rows[k];
            case 4:
                return differenceTold.sizes[k];
            default:
                return NONE;
        }
    }

    public int apply() throws IllegalStateException {
        if (!packSet || !differenceSet || !packInHand.isLike(differenceTold.first)) {
            throw new IllegalStateException("the difference does not fit a pack in hand");
        }
        packInHand.copyFrom(differenceTold.second);
        return packInHand.tiles;
    }

    public int lookUp(long word, int k) throws NoSuchElementException {
        int found = packSet ? packInHand.features.findNamed(word, k) : NONE;
        if (found == NONE) {
            throw new NoSuchElementException("no such name");
        }
        return found;
    }

    public int near(int x, int y, int sort, int k) throws NoSuchElementException {
        int found = packSet ? packInHand.features.findNear(x, y, sort, k) : NONE;
        if (found == NONE) {
            throw new NoSuchElementException("no such point");
        }
        return found;
    }

    private Edition editionAt(int number) {
        if (number == 0) {
            return present;
        }
        boolean isKept = number > 0 && number <= closed && number > closed - KEPT_EDITIONS;
        return isKept ? kept[number % KEPT_EDITIONS] : null;
    }

    private static boolean isOfWorld(int x, int y) {
        return x >= 0 && x < WORLD_SIDE && y >= 0 && y < WORLD_SIDE;
    }

    private static boolean isZoom(int z) {
        return z >= 0 && z <= LAST_ZOOM;
    }

    private static boolean isTile(int z, int tx, int ty) {
        return isZoom(z) && tx >= 0 && tx < (1 << z) && ty >= 0 && ty < (1 << z);
    }

    /** Above 0 if p is left of the way from a to b, below 0 if right of it, 0 if on its line. */
    private static int turn(int ax, int ay, int bx, int by, int px, int py) {
        return (bx - ax) * (py - ay) - (by - ay) * (px - ax);
    }

    /** A feature, or, before it is described, the corners that were told for the next one. */
    private static final class Feature {
        int number;
        int kind;
        int sort;
        int least;
        long word;
        int count;
        final int[] xs = new int[MOST_CORNERS];
        final int[] ys = new int[MOST_CORNERS];

        boolean addCorner(int x, int y) {
            if (!isOfWorld(x, y) || count >= MOST_CORNERS) {
                return false;
            }
            xs[count] = x;
            ys[count] = y;
            count++;
            return true;
        }

        void describe(int ofNumber, int ofKind, int ofSort, int ofLeast, long ofWord) {
            number = ofNumber;
            kind = ofKind;
            sort = ofSort;
            least = ofLeast;
            word = ofWord;
        }

        void copyFrom(Feature other) {
            describe(other.number, other.kind, other.sort, other.least, other.word);
            count = other.count;
            System.arraycopy(other.xs, 0, xs, 0, MOST_CORNERS);
            System.arraycopy(other.ys, 0, ys, 0, MOST_CORNERS);
        }

        boolean isDescribed() {
            return number >= 1 && number <= LAST_NUMBER
                    && sort >= 0 && sort <= LAST_CLASS
                    && isZoom(least)
                    && isName(word);
        }

        boolean hasSoundCorners() {
            switch (kind) {
                case POINT:
                    return count == 1;
                case LINE:
                    return count >= 2 && goesOn();
                case AREA:
                    return count >= 3 && isRing();
                default:
                    return false;
            }
        }

        private boolean goesOn() {
            for (int i = 1; i < count; i++) {
                if (samePlace(i - 1, i)) {
                    return false;
                }
            }
            return true;
        }

        private boolean isRing() {
            for (int i = 0; i < count; i++) {
                for (int j = i + 1; j < count; j++) {
                    if (samePlace(i, j) || edgesClash(i, j)) {
                        return false;
                    }
                }
            }
            return true;
        }

        /** Whether edges i < j have a point in common that a ring's edges must not have. */
        private boolean edgesClash(int i, int j) {
            if (next(i) == j) {
                return foldsBack(i, j, next(j));
            }
            if (next(j) == i) {
                return foldsBack(j, i, next(i));
            }
            return edgesMeet(i, next(i), j, next(j));
        }

        private boolean foldsBack(int a, int b, int c) {
            int along = (xs[a] - xs[b]) * (xs[c] - xs[b]) + (ys[a] - ys[b]) * (ys[c] - ys[b]);
            return turnOf(a, b, c) == 0 && along > 0;
        }

        private boolean edgesMeet(int a, int b, int c, int d) {
            int turnC = turnOf(a, b, c);
            int turnD = turnOf(a, b, d);
            int turnA = turnOf(c, d, a);
            int turnB = turnOf(c, d, b);
            boolean across = areOpposite(turnC, turnD) && areOpposite(turnA, turnB);
            return across
                    || (turnC == 0 && isBetween(a, b, c))
                    || (turnD == 0 && isBetween(a, b, d))
                    || (turnA == 0 && isBetween(c, d, a))
                    || (turnB == 0 && isBetween(c, d, b));
        }

        private static boolean areOpposite(int s, int t) {
            return (s < 0 && t > 0) || (s > 0 && t < 0);
        }

        private boolean isBetween(int a, int b, int p) {
            return Math.min(xs[a], xs[b]) <= xs[p] && xs[p] <= Math.max(xs[a], xs[b])
                    && Math.min(ys[a], ys[b]) <= ys[p] && ys[p] <= Math.max(ys[a], ys[b]);
        }

        private int turnOf(int a, int b, int p) {
            return turn(xs[a], ys[a], xs[b], ys[b], xs[p], ys[p]);
        }

        private boolean samePlace(int i, int j) {
            return xs[i] == xs[j] && ys[i] == ys[j];
        }

        int next(int i) {
            return i + 1 < count ? i + 1 : 0;
        }

        /** Whether a point that is on no edge is within the ring. */
        boolean surrounds(int x, int y) {
            boolean within = false;
            for (int i = 0; i < count; i++) {
                int j = next(i);
                boolean passes = (ys[i] > y) != (ys[j] > y);
                boolean left = turn(xs[i], ys[i], xs[j], ys[j], x, y) > 0;
                if (passes && left == (ys[j] > ys[i])) {
                    within = !within;
                }
            }
            return within;
        }

        private static boolean isName(long word) {
            boolean begun = false;
            for (int i = MOST_LETTERS - 1; i >= 0; i--) {
                int letter = (int) (word >>> (8 * i)) & 255;
                boolean isLetter = letter >= 'a' && letter <= 'z';
                if (!isLetter && (begun || letter != 0)) {
                    return false;
                }
                begun = isLetter;
            }
            return true;
        }

        private static int letters(long word) {
            for (int n = MOST_LETTERS; n > 0; n--) {
                if ((word >>> (8 * (n - 1))) != 0) {
                    return n;
                }
            }
            return 0;
        }

        boolean nameBegins(long start) {
            int wanted = letters(start);
            int own = letters(word);
            // Without letters the shift could be one of 64 bits, which Java takes for none.
            return wanted == 0 || (own >= wanted && word >>> (8 * (own - wanted)) == start);
        }

        /** The name with its first letter in the highest byte: these compare as words in a book. */
        private long nameInBook() {
            return word << (8 * (MOST_LETTERS - letters(word)));
        }

        boolean isNamedAhead(Feature other) {
            long own = nameInBook();
            long others = other.nameInBook();
            return own < others || (own == others && number < other.number);
        }

        boolean isNearer(Feature other, int x, int y) {
            long own = farness(x, y);
            long others = other.farness(x, y);
            return own < others || (own == others && number < other.number);
        }

        /** The squared distance less x * x + y * y: so it does not overflow for any x, y. */
        private long farness(int x, int y) {
            return xs[0] * (xs[0] - 2L * x) + ys[0] * (ys[0] - 2L * y);
        }

        boolean isPointOf(int ofSort) {
            return kind == POINT && sort == ofSort;
        }
    }

    /** Features by their numbers. */
    private static final class Edition {
        final Feature[] features = new Feature[MOST_FEATURES];
        int count;

        Edition() {
            for (int i = 0; i < MOST_FEATURES; i++) {
                features[i] = new Feature();
            }
        }

        /** Takes a copy; false if it is new and there is no room. */
        boolean put(Feature feature) {
            int at = placeOf(feature.number);
            if (!isAt(at, feature.number)) {
                if (count >= MOST_FEATURES) {
                    return false;
                }
                Feature free = features[count];
                for (int i = count; i > at; i--) {
                    features[i] = features[i - 1];
                }
                features[at] = free;
                count++;
            }
            features[at].copyFrom(feature);
            return true;
        }

        boolean remove(int number) {
            int at = placeOf(number);
            if (!isAt(at, number)) {
                return false;
            }
            Feature free = features[at];
            for (int i = at + 1; i < count; i++) {
                features[i - 1] = features[i];
            }
            count--;
            features[count] = free;
            return true;
        }

        private int placeOf(int number) {
            for (int i = 0; i < count; i++) {
                if (features[i].number >= number) {
                    return i;
                }
            }
            return count;
        }

        private boolean isAt(int at, int number) {
            return at < count && features[at].number == number;
        }

        void copyFrom(Edition other) {
            count = other.count;
            for (int i = 0; i < count; i++) {
                features[i].copyFrom(other.features[i]);
            }
        }

        void copyMeeting(Edition other, Region region) {
            count = 0;
            for (int i = 0; i < other.count; i++) {
                Feature feature = other.features[i];
                if (feature.least <= region.zoom && region.meets(feature)) {
                    features[count].copyFrom(feature);
                    count++;
                }
            }
        }

        int findNamed(long word, int k) {
            for (int i = 0; i < count; i++) {
                if (features[i].nameBegins(word) && namedAhead(features[i], word) == k) {
                    return features[i].number;
                }
            }
            return NONE;
        }

        private int namedAhead(Feature feature, long word) {
            int ahead = 0;
            for (int i = 0; i < count; i++) {
                if (features[i].nameBegins(word) && features[i].isNamedAhead(feature)) {
                    ahead++;
                }
            }
            return ahead;
        }

        int findNear(int x, int y, int sort, int k) {
            for (int i = 0; i < count; i++) {
                if (features[i].isPointOf(sort) && nearer(features[i], x, y) == k) {
                    return features[i].number;
                }
            }
            return NONE;
        }

        private int nearer(Feature feature, int x, int y) {
            int nearer = 0;
            for (int i = 0; i < count; i++) {
                if (features[i].isPointOf(feature.sort) && features[i].isNearer(feature, x, y)) {
                    nearer++;
                }
            }
            return nearer;
        }
    }

    /** Corners in steps of a zoom: a point, a ring, or the pieces of a line, one behind another. */
    private static final class Path {
        final int[] xs;
        final int[] ys;
        final boolean[] begins;
        int count;
        int lowX;
        int highX;
        int lowY;
        int highY;

        Path(int room) {
            xs = new int[room];
            ys = new int[room];
            begins = new boolean[room];
        }

        void add(int x, int y, boolean begin) {
            if (count < xs.length) {
                xs[count] = x;
                ys[count] = y;
                begins[count] = begin;
                count++;
            }
        }

        boolean samePlace(int i, int j) {
            return xs[i] == xs[j] && ys[i] == ys[j];
        }

        void move(int from, int to) {
            xs[to] = xs[from];
            ys[to] = ys[from];
            begins[to] = begins[from];
        }

        /** Of corners in one place the first stays; then nothing stays that is too short. */
        void tidy(int kind) {
            mergeRepeats();
            if (kind == LINE) {
                removeLoneCorners();
            }
            if (kind == AREA && count > 1 && samePlace(0, count - 1)) {
                count--;
            }
            if (count < kind + 1) {
                count = 0;
            }
        }

        private void mergeRepeats() {
            int staying = 0;
            for (int i = 0; i < count; i++) {
                if (begins[i] || staying == 0 || !samePlace(i, staying - 1)) {
                    move(i, staying);
                    staying++;
                }
            }
            count = staying;
        }

        private void removeLoneCorners() {
            int staying = 0;
            for (int i = 0; i < count; i++) {
                boolean ends = i + 1 == count || begins[i + 1];
                if (!begins[i] || !ends) {
                    move(i, staying);
                    staying++;
                }
            }
            count = staying;
        }

        int pieces() {
            int pieces = 0;
            for (int i = 0; i < count; i++) {
                if (begins[i]) {
                    pieces++;
                }
            }
            return pieces;
        }

        int pieceSize(int start) {
            int size = 1;
            for (int i = start + 1; i < count && !begins[i]; i++) {
                size++;
            }
            return size;
        }

        void measure() {
            lowX = WORLD_SIDE;
            lowY = WORLD_SIDE;
            highX = 0;
            highY = 0;
            for (int i = 0; i < count; i++) {
                lowX = Math.min(lowX, xs[i]);
                highX = Math.max(highX, xs[i]);
                lowY = Math.min(lowY, ys[i]);
                highY = Math.max(highY, ys[i]);
            }
        }

        /** Whether all of it, as measured, is beyond one side of a tile: the cut leaves nothing. */
        boolean misses(int left, int top) {
            return highX < left - MARGIN
                    || lowX > left + TILE_SIDE + MARGIN
                    || highY < top - MARGIN
                    || lowY > top + TILE_SIDE + MARGIN;
        }

        void copyFrom(Path other) {
            count = 0;
            for (int i = 0; i < other.count; i++) {
                add(other.xs[i], other.ys[i], other.begins[i]);
            }
        }

        /** Becomes what a side leaves of another path. */
        void cutFrom(Path other, Side side, boolean ring) {
            count = 0;
            boolean before = false;
            for (int i = 0; i < other.count; i++) {
                boolean inside = side.holds(other.xs[i], other.ys[i]);
                if (i > 0 && !other.begins[i] && inside != before) {
                    putOnBorder(other, i - 1, i, side, ring ? count == 0 : inside);
                }
                if (inside) {
                    add(other.xs[i], other.ys[i], ring ? count == 0 : other.begins[i]);
                }
                before = inside;
            }
            if (ring && other.count > 0 && side.holds(other.xs[0], other.ys[0]) != before) {
                putOnBorder(other, other.count - 1, 0, side, count == 0);
            }
        }

        private void putOnBorder(Path other, int i, int j, Side side, boolean begin) {
            if (side.upright) {
                int y = side.cross(other.xs[i], other.ys[i], other.xs[j], other.ys[j]);
                add(side.border, y, begin);
            } else {
                int x = side.cross(other.ys[i], other.xs[i], other.ys[j], other.xs[j]);
                add(x, side.border, begin);
            }
        }
    }

    /** One of the four sides of a tile with its margin. */
    private static final class Side {
        boolean upright;
        boolean least;
        int border;

        void set(int which, int left, int top) {
            upright = which < 2;
            least = which % 2 == 0;
            int start = upright ? left : top;
            border = least ? start - MARGIN : start + TILE_SIDE + MARGIN;
        }

        boolean holds(int x, int y) {
            int v = upright ? x : y;
            return least ? v >= border : v <= border;
        }

        /** The other coordinate where an edge from (v0, w0) to (v1, w1) has the border's v. */
        int cross(int v0, int w0, int v1, int w1) {
            int run = v1 - v0;
            if (run == 0) {
                return w0;
            }
            return w0 + Math.floorDiv(2 * (w1 - w0) * (border - v0) + run, 2 * run);
        }
    }

    /** The bytes of a tile. */
    private static final class Octets {
        final byte[] data = new byte[MOST_TILE_BYTES];
        int size;

        void add(int octet) {
            if (size < data.length) {
                data[size] = (byte) octet;
                size++;
            }
        }

        void addCount(int count) {
            int rest = count;
            for (int more = 0; more < 4 && rest > 127; more++) {
                add((rest & 127) + 128);
                rest >>>= 7;
            }
            add(rest);
        }

        void addStep(int d) {
            addCount(d < 0 ? -2 * d - 1 : 2 * d);
        }
    }

    /** Makes tiles of an edition that was prepared for a zoom. */
    private static final class TileMaker {
        private Edition edition;
        private int zoom;
        private final Path[] shapes = new Path[MOST_FEATURES];
        private final boolean[] stays = new boolean[MOST_CORNERS + 1];
        private Path uncut = new Path(MOST_CUT_CORNERS);
        private Path cut = new Path(MOST_CUT_CORNERS);
        private final Side side = new Side();

        TileMaker() {
            for (int i = 0; i < MOST_FEATURES; i++) {
                shapes[i] = new Path(MOST_CORNERS + 1);
            }
        }

        void prepare(Edition ofEdition, int z) {
            edition = ofEdition;
            zoom = z;
            for (int i = 0; i < edition.count; i++) {
                shapes[i].count = 0;
                if (edition.features[i].least <= z) {
                    makeShape(edition.features[i], shapes[i]);
                }
            }
        }

        private void makeShape(Feature feature, Path shape) {
            int shift = LAST_ZOOM - zoom;
            for (int i = 0; i < feature.count; i++) {
                shape.add(feature.xs[i] >> shift, feature.ys[i] >> shift, i == 0);
            }
            if (feature.kind == AREA) {
                shape.add(shape.xs[0], shape.ys[0], false);
            }
            if (shape.count > 2) {
                markStaying(shape);
                keepStaying(shape);
            }
            shape.tidy(feature.kind);
            shape.measure();
        }

        private void keepStaying(Path shape) {
            int staying = 0;
            for (int i = 0; i < shape.count; i++) {
                if (stays[i]) {
                    shape.move(i, staying);
                    staying++;
                }
            }
            shape.count = staying;
        }

        private void markStaying(Path shape) {
            int last = shape.count - 1;
            for (int i = 0; i <= last; i++) {
                stays[i] = i == 0 || i == last;
            }
            int from = 0;
            // A round marks a corner more, or goes on to the next one that is marked.
            for (int round = 0; round < 2 * shape.count && from < last; round++) {
                int to = nextStaying(from, last);
                int far = farthest(shape, from, to);
                if (far == NONE) {
                    from = to;
                } else {
                    stays[far] = true;
                }
            }
        }

        private int nextStaying(int from, int last) {
            for (int i = from + 1; i < last; i++) {
                if (stays[i]) {
                    return i;
                }
            }
            return last;
        }

        /** The corner between two that is farthest from their line; NONE if it is not 2 steps. */
        private static int farthest(Path shape, int from, int to) {
            int dx = shape.xs[to] - shape.xs[from];
            int dy = shape.ys[to] - shape.ys[from];
            boolean together = dx == 0 && dy == 0;
            int best = NONE;
            long most = -1;
            for (int i = from + 1; i < to; i++) {
                int ex = shape.xs[i] - shape.xs[from];
                int ey = shape.ys[i] - shape.ys[from];
                int far = together ? ex * ex + ey * ey : Math.abs(dx * ey - dy * ex);
                if (far > most) {
                    most = far;
                    best = i;
                }
            }
            // From a point it is the distance squared, from a line the distance times the length.
            boolean enough = together ? most >= 4 : most * most >= 4L * (dx * dx + dy * dy);
            return enough ? best : NONE;
        }

        void make(int tx, int ty, Octets out) {
            int left = TILE_SIDE * tx;
            int top = TILE_SIDE * ty;
            int before = 0;
            out.size = 0;
            if (edition == null) {
                return;
            }
            for (int i = 0; i < edition.count; i++) {
                Feature feature = edition.features[i];
                if (shapes[i].count > 0 && !shapes[i].misses(left, top)) {
                    cutToTile(shapes[i], feature.kind, left, top);
                    if (cut.count > 0) {
                        write(feature, feature.number - before, left, top, out);
                        before = feature.number;
                    }
                }
            }
        }

        private void cutToTile(Path shape, int kind, int left, int top) {
            cut.copyFrom(shape);
            for (int which = 0; which < 4; which++) {
                Path old = uncut;
                uncut = cut;
                cut = old;
                side.set(which, left, top);
                cut.cutFrom(uncut, side, kind == AREA);
            }
            cut.tidy(kind);
        }

        private void write(Feature feature, int step, int left, int top, Octets out) {
            int x = left;
            int y = top;
            out.addCount(step);
            out.add(feature.kind + 4 * feature.sort);
            out.addCount(cut.pieces());
            for (int i = 0; i < cut.count; i++) {
                if (cut.begins[i]) {
                    out.addCount(cut.pieceSize(i));
                }
                out.addStep(cut.xs[i] - x);
                out.addStep(cut.ys[i] - y);
                x = cut.xs[i];
                y = cut.ys[i];
            }
        }
    }

    private static final class Region {
        int x0;
        int y0;
        int x1;
        int y1;
        int zoom;

        void set(int fromX, int fromY, int toX, int toY, int toZoom) {
            x0 = fromX;
            y0 = fromY;
            x1 = toX;
            y1 = toY;
            zoom = toZoom;
        }

        void copyFrom(Region other) {
            set(other.x0, other.y0, other.x1, other.y1, other.zoom);
        }

        boolean isLike(Region other) {
            return x0 == other.x0 && y0 == other.y0 && x1 == other.x1 && y1 == other.y1
                    && zoom == other.zoom;
        }

        boolean hasTile(int z, int tx, int ty) {
            int shift = WORLD_BITS - z;
            return tx >= (x0 >> shift) && tx <= (x1 >> shift)
                    && ty >= (y0 >> shift) && ty <= (y1 >> shift);
        }

        boolean meets(Feature feature) {
            if (feature.kind == POINT) {
                return meetsEdge(feature, 0, 0);
            }
            int edges = feature.kind == AREA ? feature.count : feature.count - 1;
            for (int i = 0; i < edges; i++) {
                if (meetsEdge(feature, i, feature.next(i))) {
                    return true;
                }
            }
            // Without a common point of its edges an area has all of the region within, or nothing.
            return feature.kind == AREA && feature.surrounds(x0, y0);
        }

        private boolean meetsEdge(Feature feature, int i, int j) {
            int ax = feature.xs[i];
            int ay = feature.ys[i];
            int bx = feature.xs[j];
            int by = feature.ys[j];
            if (Math.max(ax, bx) < x0 || Math.min(ax, bx) > x1
                    || Math.max(ay, by) < y0 || Math.min(ay, by) > y1) {
                return false;
            }
            int a = turn(ax, ay, bx, by, x0, y0);
            int b = turn(ax, ay, bx, by, x1, y0);
            int c = turn(ax, ay, bx, by, x0, y1);
            int d = turn(ax, ay, bx, by, x1, y1);
            boolean allLeft = a > 0 && b > 0 && c > 0 && d > 0;
            boolean allRight = a < 0 && b < 0 && c < 0 && d < 0;
            return !allLeft && !allRight;
        }
    }

    private static final class Pack {
        int edition;
        final Region region = new Region();
        final Edition features = new Edition();
        int tiles;
        int stored;
        int shared;
        final int[] places = new int[MOST_TILES];
        final int[] zooms = new int[MOST_TILES];
        final int[] columns = new int[MOST_TILES];
        final int[] rows = new int[MOST_TILES];
        final int[] sizes = new int[MOST_TILES];
        final int[] firsts = new int[MOST_TILES];
        final int[] starts = new int[MOST_TILES];
        final byte[] data = new byte[MOST_STORED];

        void clear(int ofEdition, Region ofRegion) {
            edition = ofEdition;
            region.copyFrom(ofRegion);
            tiles = 0;
            stored = 0;
            shared = 0;
        }

        /** A tile more, behind all others in ORDER, at a place; false if the pack is refused. */
        boolean addTile(int place, int z, int tx, int ty, Octets tile) {
            if (tiles >= MOST_TILES) {
                return false;
            }
            int first = firstWith(tile);
            if (first < tiles) {
                shared++;
                starts[tiles] = starts[first];
            } else if (stored + tile.size <= MOST_STORED) {
                System.arraycopy(tile.data, 0, data, stored, tile.size);
                starts[tiles] = stored;
                stored += tile.size;
            } else {
                return false;
            }
            places[tiles] = place;
            zooms[tiles] = z;
            columns[tiles] = tx;
            rows[tiles] = ty;
            sizes[tiles] = tile.size;
            firsts[tiles] = first;
            tiles++;
            return true;
        }

        private int firstWith(Octets tile) {
            for (int k = 0; k < tiles; k++) {
                if (hasBytes(k, tile.data, 0, tile.size)) {
                    return k;
                }
            }
            return tiles;
        }

        private boolean hasBytes(int k, byte[] others, int start, int size) {
            if (sizes[k] != size) {
                return false;
            }
            for (int i = 0; i < size; i++) {
                if (data[starts[k] + i] != others[start + i]) {
                    return false;
                }
            }
            return true;
        }

        boolean sameBytes(int k, Pack other, int j) {
            return hasBytes(k, other.data, other.starts[j], other.sizes[j]);
        }

        boolean isAt(int k, int place) {
            return k < tiles && places[k] == place;
        }

        boolean isLike(Pack other) {
            if (!region.isLike(other.region) || tiles != other.tiles) {
                return false;
            }
            for (int k = 0; k < tiles; k++) {
                if (places[k] != other.places[k] || !sameBytes(k, other, k)) {
                    return false;
                }
            }
            return true;
        }

        void copyTile(int z, int tx, int ty, Octets out) {
            for (int k = 0; k < tiles; k++) {
                if (zooms[k] == z && columns[k] == tx && rows[k] == ty) {
                    System.arraycopy(data, starts[k], out.data, 0, sizes[k]);
                    out.size = sizes[k];
                    return;
                }
            }
        }

        void copyFrom(Pack other) {
            clear(other.edition, other.region);
            features.copyFrom(other.features);
            tiles = other.tiles;
            stored = other.stored;
            shared = other.shared;
            System.arraycopy(other.places, 0, places, 0, tiles);
            System.arraycopy(other.zooms, 0, zooms, 0, tiles);
            System.arraycopy(other.columns, 0, columns, 0, tiles);
            System.arraycopy(other.rows, 0, rows, 0, tiles);
            System.arraycopy(other.sizes, 0, sizes, 0, tiles);
            System.arraycopy(other.firsts, 0, firsts, 0, tiles);
            System.arraycopy(other.starts, 0, starts, 0, tiles);
            System.arraycopy(other.data, 0, data, 0, stored);
        }
    }

    /** Fills packs with an edition's tiles and features. */
    private static final class Packer {
        final TileMaker maker = new TileMaker();
        private final Octets made = new Octets();

        /** False if the pack is refused. */
        boolean fill(Pack pack, Edition edition, int number, Region region) {
            pack.clear(number, region);
            boolean fits = true;
            int place = 0;
            for (int z = 0; z <= region.zoom; z++) {
                maker.prepare(edition, z);
                for (int code = 0; code < (1 << (2 * z)) && fits; code++) {
                    int tx = everySecondBit(code);
                    int ty = everySecondBit(code >> 1);
                    if (region.hasTile(z, tx, ty)) {
                        maker.make(tx, ty, made);
                        fits = made.size == 0 || pack.addTile(place, z, tx, ty, made);
                    }
                    place++;
                }
            }
            pack.features.copyMeeting(edition, region);
            return fits;
        }

        private static int everySecondBit(int code) {
            int number = 0;
            for (int bit = 0; bit < LAST_ZOOM; bit++) {
                number |= ((code >> (2 * bit)) & 1) << bit;
            }
            return number;
        }
    }

    private static final class Difference {
        final Pack first = new Pack();
        final Pack second = new Pack();
        int count;
        final int[] changes = new int[2 * MOST_TILES];
        final int[] zooms = new int[2 * MOST_TILES];
        final int[] columns = new int[2 * MOST_TILES];
        final int[] rows = new int[2 * MOST_TILES];
        final int[] sizes = new int[2 * MOST_TILES];

        void compare() {
            count = 0;
            int i = 0;
            int j = 0;
            for (int place = 0; place < ALL_TILES; place++) {
                boolean had = first.isAt(i, place);
                boolean has = second.isAt(j, place);
                if (had && has && !first.sameBytes(i, second, j)) {
                    tell(CHANGED, second, j, second.sizes[j]);
                } else if (had && !has) {
                    tell(REMOVED, first, i, 0);
                } else if (has && !had) {
                    tell(ADDED, second, j, second.sizes[j]);
                }
                i += had ? 1 : 0;
                j += has ? 1 : 0;
            }
        }

        private void tell(int change, Pack pack, int k, int size) {
            if (count < changes.length) {
                changes[count] = change;
                zooms[count] = pack.zooms[k];
                columns[count] = pack.columns[k];
                rows[count] = pack.rows[k];
                sizes[count] = size;
                count++;
            }
        }
    }
}
