import java.math.BigInteger;
import java.util.ArrayList;
import java.util.Comparator;
import java.util.LinkedHashMap;
import java.util.List;
import java.util.Map;
import java.util.NoSuchElementException;
import java.util.TreeMap;
import java.util.TreeSet;

/**
 * The document a second time, with the whole Java library and without a thought of room or time, so
 * that the two can be held against each other.
 */
final class Model {
    record Point(long x, long y) {}

    record Shape(int number, int kind, int sort, int least, String name, List<Point> corners) {}

    record Tile(int z, int tx, int ty) {}

    record Area(int x0, int y0, int x1, int y1, int zoom) {}

    record Packed(int edition, Area area, Map<Tile, List<Integer>> tiles, List<Shape> shapes) {}

    record Told(int change, Tile tile, int size) {}

    record Difference(Packed first, Packed second, List<Told> told) {}

    private List<Point> corners = new ArrayList<>();
    private TreeMap<Integer, Shape> present = new TreeMap<>();
    private final List<TreeMap<Integer, Shape>> closed = new ArrayList<>();
    private List<Integer> tile = List.of();
    private Area area;
    private Packed pack;
    private Difference difference;

    boolean corner(int x, int y) {
        if (x < 0 || x > 4095 || y < 0 || y > 4095 || corners.size() == 12) {
            return false;
        }
        corners.add(new Point(x, y));
        return true;
    }

    int feature(int number, int kind, int sort, int least, long word) {
        List<Point> used = corners;
        corners = new ArrayList<>();
        String name = nameOf(word);
        if (number < 1 || number > 9999 || sort < 0 || sort > 9 || least < 0 || least > 4
                || !name.matches("[a-z]*") || !sound(kind, used)) {
            throw new IllegalArgumentException();
        }
        if (!present.containsKey(number) && present.size() == 24) {
            throw new IllegalStateException();
        }
        present.put(number, new Shape(number, kind, sort, least, name, used));
        return present.size();
    }

    /** A byte of 0 behind a letter stays in the name, where it is no letter. */
    static String nameOf(long word) {
        StringBuilder name = new StringBuilder();
        for (int i = 7; i >= 0; i--) {
            name.append((char) (word >>> (8 * i) & 255));
        }
        return name.toString().replaceFirst("^\0+", "");
    }

    private static boolean sound(int kind, List<Point> p) {
        if (kind == 0) {
            return p.size() == 1;
        }
        if (kind == 1) {
            for (int i = 1; i < p.size(); i++) {
                if (p.get(i).equals(p.get(i - 1))) {
                    return false;
                }
            }
            return p.size() >= 2;
        }
        if (kind != 2 || p.size() < 3 || new java.util.HashSet<>(p).size() < p.size()) {
            return false;
        }
        int n = p.size();
        for (int i = 0; i < n; i++) {
            for (int j = 0; j < n; j++) {
                Point a = p.get(i);
                Point b = p.get((i + 1) % n);
                Point c = p.get(j);
                Point d = p.get((j + 1) % n);
                boolean neighbours = (i + 1) % n == j || (j + 1) % n == i;
                if (i != j && (neighbours ? overlap(a, b, c, d) : common(a, b, c, d))) {
                    return false;
                }
            }
        }
        return true;
    }

    private static long cross(long ax, long ay, long bx, long by) {
        return ax * by - ay * bx;
    }

    /** Whether two segments have a point in common: p + t r = q + u s, with t and u of 0 .. 1. */
    private static boolean common(Point p, Point p2, Point q, Point q2) {
        long rx = p2.x - p.x;
        long ry = p2.y - p.y;
        long sx = q2.x - q.x;
        long sy = q2.y - q.y;
        long below = cross(rx, ry, sx, sy);
        if (below == 0) {
            return cross(q.x - p.x, q.y - p.y, rx, ry) == 0 && span(p, p2, q, q2) >= 0;
        }
        long t = cross(q.x - p.x, q.y - p.y, sx, sy);
        long u = cross(q.x - p.x, q.y - p.y, rx, ry);
        if (below < 0) {
            below = -below;
            t = -t;
            u = -u;
        }
        return t >= 0 && t <= below && u >= 0 && u <= below;
    }

    /** Whether two segments have more than one point in common. */
    private static boolean overlap(Point p, Point p2, Point q, Point q2) {
        long rx = p2.x - p.x;
        long ry = p2.y - p.y;
        return cross(rx, ry, q2.x - q.x, q2.y - q.y) == 0
                && cross(q.x - p.x, q.y - p.y, rx, ry) == 0
                && span(p, p2, q, q2) > 0;
    }

    /** How long the common part of two segments on one line is, along the first; below 0: none. */
    private static long span(Point p, Point p2, Point q, Point q2) {
        long rx = p2.x - p.x;
        long ry = p2.y - p.y;
        long whole = rx * rx + ry * ry;
        long a = (q.x - p.x) * rx + (q.y - p.y) * ry;
        long b = (q2.x - p.x) * rx + (q2.y - p.y) * ry;
        return Math.min(whole, Math.max(a, b)) - Math.max(0, Math.min(a, b));
    }

    boolean drop(int number) {
        return present.remove(number) != null;
    }

    int edition() {
        closed.add(new TreeMap<>(present));
        return closed.size();
    }

    private TreeMap<Integer, Shape> editionAt(int number) {
        if (number == 0) {
            return present;
        }
        if (number < 1 || number > closed.size() || number < closed.size() - 1) {
            throw new IndexOutOfBoundsException();
        }
        return closed.get(number - 1);
    }

    int tile(int edition, int z, int tx, int ty) {
        TreeMap<Integer, Shape> of = editionAt(edition);
        if (z < 0 || z > 4 || tx < 0 || ty < 0 || tx >= 1 << z || ty >= 1 << z) {
            throw new IndexOutOfBoundsException();
        }
        tile = bytes(of, new Tile(z, tx, ty));
        return tile.size();
    }

    int octet(int i) {
        return i >= 0 && i < tile.size() ? tile.get(i) : -1;
    }

    private static List<Integer> bytes(TreeMap<Integer, Shape> edition, Tile tile) {
        List<Integer> out = new ArrayList<>();
        int before = 0;
        for (Shape shape : edition.values()) {
            if (shape.least > tile.z) {
                continue;
            }
            List<List<Point>> pieces = piecesOf(shape, tile);
            if (pieces.isEmpty()) {
                continue;
            }
            count(out, shape.number - before);
            before = shape.number;
            out.add(shape.kind + 4 * shape.sort);
            count(out, pieces.size());
            Point last = new Point(256L * tile.tx, 256L * tile.ty);
            for (List<Point> piece : pieces) {
                count(out, piece.size());
                for (Point p : piece) {
                    step(out, p.x - last.x);
                    step(out, p.y - last.y);
                    last = p;
                }
            }
        }
        return out;
    }

    private static void step(List<Integer> out, long d) {
        count(out, d < 0 ? -2 * d - 1 : 2 * d);
    }

    private static void count(List<Integer> out, long n) {
        if (n < 128) {
            out.add((int) n);
        } else {
            out.add((int) (n % 128 + 128));
            count(out, n / 128);
        }
    }

    private static List<List<Point>> piecesOf(Shape shape, Tile tile) {
        List<Point> steps = new ArrayList<>();
        for (Point p : shape.corners) {
            steps.add(new Point(p.x / (1 << (4 - tile.z)), p.y / (1 << (4 - tile.z))));
        }
        List<Point> simple = steps;
        if (shape.kind == 1) {
            simple = once(simpler(steps), false);
        }
        if (shape.kind == 2) {
            steps.add(steps.get(0));
            simple = once(simpler(steps), true);
        }
        List<List<Point>> pieces = new ArrayList<>();
        if (simple.size() > shape.kind) {
            pieces.add(simple);
        }
        for (int side = 0; side < 4; side++) {
            List<List<Point>> left = new ArrayList<>();
            for (List<Point> piece : pieces) {
                left.addAll(cut(piece, side, tile, shape.kind == 2));
            }
            pieces = left;
        }
        List<List<Point>> left = new ArrayList<>();
        for (List<Point> piece : pieces) {
            List<Point> tidy = once(piece, shape.kind == 2);
            if (tidy.size() > shape.kind) {
                left.add(tidy);
            }
        }
        return left;
    }

    private static List<Point> simpler(List<Point> p) {
        if (p.size() <= 2) {
            return p;
        }
        Point a = p.get(0);
        Point b = p.get(p.size() - 1);
        int far = 0;
        // The squared distance is up / down, with the same down for all.
        BigInteger most = BigInteger.ONE.negate();
        BigInteger down = BigInteger.ONE;
        for (int i = 1; i < p.size() - 1; i++) {
            long ex = p.get(i).x - a.x;
            long ey = p.get(i).y - a.y;
            BigInteger up;
            if (a.equals(b)) {
                up = BigInteger.valueOf(ex * ex + ey * ey);
            } else {
                long dx = b.x - a.x;
                long dy = b.y - a.y;
                up = BigInteger.valueOf(cross(dx, dy, ex, ey)).pow(2);
                down = BigInteger.valueOf(dx * dx + dy * dy);
            }
            if (up.compareTo(most) > 0) {
                most = up;
                far = i;
            }
        }
        if (most.compareTo(down.multiply(BigInteger.valueOf(4))) < 0) {
            return List.of(a, b);
        }
        List<Point> both = new ArrayList<>(simpler(p.subList(0, far + 1)));
        both.remove(both.size() - 1);
        both.addAll(simpler(p.subList(far, p.size())));
        return both;
    }

    private static List<Point> once(List<Point> p, boolean ring) {
        List<Point> out = new ArrayList<>();
        for (Point q : p) {
            if (out.isEmpty() || !out.get(out.size() - 1).equals(q)) {
                out.add(q);
            }
        }
        if (ring && out.size() > 1 && out.get(0).equals(out.get(out.size() - 1))) {
            out.remove(out.size() - 1);
        }
        return out;
    }

    private static boolean inside(Point p, int side, Tile tile) {
        switch (side) {
            case 0:
                return p.x >= 256L * tile.tx - 8;
            case 1:
                return p.x <= 256L * tile.tx + 264;
            case 2:
                return p.y >= 256L * tile.ty - 8;
            default:
                return p.y <= 256L * tile.ty + 264;
        }
    }

    private static Point border(Point a, Point b, int side, Tile tile) {
        switch (side) {
            case 0:
                return new Point(256L * tile.tx - 8, at(a.x, a.y, b.x, b.y, 256L * tile.tx - 8));
            case 1:
                return new Point(256L * tile.tx + 264, at(a.x, a.y, b.x, b.y, 256L * tile.tx + 264));
            case 2:
                return new Point(at(a.y, a.x, b.y, b.x, 256L * tile.ty - 8), 256L * tile.ty - 8);
            default:
                return new Point(at(a.y, a.x, b.y, b.x, 256L * tile.ty + 264), 256L * tile.ty + 264);
        }
    }

    private static long at(long v0, long w0, long v1, long w1, long v) {
        if (v0 > v1) {
            return at(v1, w1, v0, w0, v);
        }
        java.math.BigDecimal up = java.math.BigDecimal.valueOf(2 * (w0 * (v1 - v) + w1 * (v - v0)) + (v1 - v0));
        return up.divide(java.math.BigDecimal.valueOf(2 * (v1 - v0)), 0, java.math.RoundingMode.FLOOR).longValue();
    }

    private static List<List<Point>> cut(List<Point> piece, int side, Tile tile, boolean ring) {
        List<List<Point>> out = new ArrayList<>();
        List<Point> open = new ArrayList<>();
        int n = piece.size();
        for (int i = 0; i < n; i++) {
            Point a = piece.get(i);
            boolean in = inside(a, side, tile);
            if (in) {
                open.add(a);
            }
            if (i + 1 == n && !ring) {
                break;
            }
            Point b = piece.get((i + 1) % n);
            if (in == inside(b, side, tile)) {
                continue;
            }
            open.add(border(a, b, side, tile));
            if (in && !ring) {
                out.add(open);
                open = new ArrayList<>();
            }
        }
        if (!open.isEmpty()) {
            out.add(open);
        }
        return out;
    }

    void region(int x0, int y0, int x1, int y1, int zoom) {
        if (x0 < 0 || y0 < 0 || x1 > 4095 || y1 > 4095 || x0 > x1 || y0 > y1 || zoom < 0 || zoom > 4) {
            throw new IllegalArgumentException();
        }
        area = new Area(x0, y0, x1, y1, zoom);
        difference = null;
    }

    private static String orderOf(Tile tile) {
        StringBuilder bits = new StringBuilder().append(tile.z);
        for (int bit = 4; bit >= 0; bit--) {
            bits.append(tile.ty >> bit & 1).append(tile.tx >> bit & 1);
        }
        return bits.toString();
    }

    private Packed packOf(int number, TreeMap<Integer, Shape> edition) {
        if (area == null) {
            throw new IllegalStateException();
        }
        List<Tile> tiles = new ArrayList<>();
        for (int z = 0; z <= area.zoom; z++) {
            for (int tx : touched(area.x0, area.x1, z)) {
                for (int ty : touched(area.y0, area.y1, z)) {
                    tiles.add(new Tile(z, tx, ty));
                }
            }
        }
        tiles.sort(Comparator.comparing(Model::orderOf));
        Map<Tile, List<Integer>> made = new LinkedHashMap<>();
        for (Tile one : tiles) {
            List<Integer> bytes = bytes(edition, one);
            if (!bytes.isEmpty()) {
                made.put(one, bytes);
            }
        }
        List<Shape> shapes = new ArrayList<>();
        for (Shape shape : edition.values()) {
            if (shape.least <= area.zoom && meets(shape, area)) {
                shapes.add(shape);
            }
        }
        Packed packed = new Packed(number, area, made, shapes);
        if (made.size() > 100 || storedIn(packed) > 5000) {
            throw new IllegalStateException();
        }
        return packed;
    }

    private static TreeSet<Integer> touched(int from, int to, int z) {
        TreeSet<Integer> tiles = new TreeSet<>();
        for (int v = from; v <= to; v++) {
            tiles.add((v >> (4 - z)) / 256);
        }
        return tiles;
    }

    private static int storedIn(Packed packed) {
        int stored = 0;
        for (List<Integer> bytes : new java.util.HashSet<>(packed.tiles.values())) {
            stored += bytes.size();
        }
        return stored;
    }

    /** By the region as a ring of its own: a common point of edges, or one within the other. */
    private static boolean meets(Shape shape, Area area) {
        List<Point> p = shape.corners;
        for (Point q : p) {
            if (q.x >= area.x0 && q.x <= area.x1 && q.y >= area.y0 && q.y <= area.y1) {
                return true;
            }
        }
        List<Point> box = List.of(new Point(area.x0, area.y0), new Point(area.x1, area.y0),
                new Point(area.x1, area.y1), new Point(area.x0, area.y1));
        int edges = shape.kind == 2 ? p.size() : p.size() - 1;
        for (int i = 0; i < edges; i++) {
            for (int j = 0; j < 4; j++) {
                Point a = p.get(i);
                Point b = p.get((i + 1) % p.size());
                if (common(a, b, box.get(j), box.get((j + 1) % 4))) {
                    return true;
                }
            }
        }
        return shape.kind == 2 && winding(p, box.get(0)) != 0;
    }

    private static int winding(List<Point> ring, Point at) {
        int turns = 0;
        for (int i = 0; i < ring.size(); i++) {
            Point a = ring.get(i);
            Point b = ring.get((i + 1) % ring.size());
            long side = cross(b.x - a.x, b.y - a.y, at.x - a.x, at.y - a.y);
            if (a.y <= at.y && b.y > at.y && side > 0) {
                turns++;
            }
            if (a.y > at.y && b.y <= at.y && side < 0) {
                turns--;
            }
        }
        return turns;
    }

    int extract(int edition) {
        pack = packOf(edition, editionAt(edition));
        return pack.tiles.size();
    }

    int packed(int k, int what) {
        if (pack == null || k < 0 || k >= pack.tiles.size()) {
            return -1;
        }
        Tile at = new ArrayList<>(pack.tiles.keySet()).get(k);
        List<List<Integer>> bytes = new ArrayList<>(pack.tiles.values());
        switch (what) {
            case 0:
                return at.z;
            case 1:
                return at.tx;
            case 2:
                return at.ty;
            case 3:
                return bytes.get(k).size();
            case 4:
                return bytes.indexOf(bytes.get(k));
            default:
                return -1;
        }
    }

    int take(int z, int tx, int ty) {
        tile = pack == null ? List.of() : pack.tiles.getOrDefault(new Tile(z, tx, ty), List.of());
        return tile.size();
    }

    int pack(int what) {
        if (pack == null) {
            return -1;
        }
        switch (what) {
            case 0:
                return pack.tiles.size();
            case 1:
                return storedIn(pack);
            case 2:
                return pack.tiles.size() - new java.util.HashSet<>(pack.tiles.values()).size();
            case 3:
                return pack.edition;
            case 4:
                return pack.shapes.size();
            default:
                return -1;
        }
    }

    int difference(int from, int to) {
        TreeMap<Integer, Shape> one = editionAt(from);
        TreeMap<Integer, Shape> two = editionAt(to);
        Packed first = packOf(from, one);
        Packed second = packOf(to, two);
        List<Tile> all = new ArrayList<>(first.tiles.keySet());
        all.removeAll(second.tiles.keySet());
        all.addAll(second.tiles.keySet());
        all.sort(Comparator.comparing(Model::orderOf));
        List<Told> told = new ArrayList<>();
        for (Tile at : all) {
            List<Integer> a = first.tiles.get(at);
            List<Integer> b = second.tiles.get(at);
            if (b == null) {
                told.add(new Told(0, at, 0));
            } else if (a == null) {
                told.add(new Told(1, at, b.size()));
            } else if (!a.equals(b)) {
                told.add(new Told(2, at, b.size()));
            }
        }
        difference = new Difference(first, second, told);
        return told.size();
    }

    int differs(int k, int what) {
        if (difference == null || k < 0 || k >= difference.told.size()) {
            return -1;
        }
        Told told = difference.told.get(k);
        int[] all = {told.change, told.tile.z, told.tile.tx, told.tile.ty, told.size};
        return what < 0 || what > 4 ? -1 : all[what];
    }

    int apply() {
        if (pack == null || difference == null || !pack.area.equals(difference.first.area)
                || !pack.tiles.equals(difference.first.tiles)) {
            throw new IllegalStateException();
        }
        pack = difference.second;
        return pack.tiles.size();
    }

    int lookUp(long word, int k) {
        List<Shape> found = new ArrayList<>();
        for (Shape shape : pack == null ? List.<Shape>of() : pack.shapes) {
            if (shape.name.startsWith(nameOf(word))) {
                found.add(shape);
            }
        }
        found.sort(Comparator.comparing(Shape::name).thenComparing(Shape::number));
        return pick(found, k);
    }

    int near(int x, int y, int sort, int k) {
        List<Shape> found = new ArrayList<>();
        for (Shape shape : pack == null ? List.<Shape>of() : pack.shapes) {
            if (shape.kind == 0 && shape.sort == sort) {
                found.add(shape);
            }
        }
        found.sort(Comparator.comparing((Shape s) -> squared(s, x, y)).thenComparing(Shape::number));
        return pick(found, k);
    }

    private static BigInteger squared(Shape shape, int x, int y) {
        BigInteger dx = BigInteger.valueOf(shape.corners.get(0).x - x);
        BigInteger dy = BigInteger.valueOf(shape.corners.get(0).y - y);
        return dx.multiply(dx).add(dy.multiply(dy));
    }

    private static int pick(List<Shape> found, int k) {
        if (k < 0 || k >= found.size()) {
            throw new NoSuchElementException();
        }
        return found.get(k).number;
    }
}
