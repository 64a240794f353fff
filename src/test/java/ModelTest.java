import java.util.Random;
import java.util.TreeMap;
import java.util.function.IntSupplier;

/**
 * Runs of calls by chance, always the same ones, on the program and on the model side by side, each
 * of as many calls as an object is used for.
 */
public final class ModelTest {
    private static final int RUNS = Integer.getInteger("runs", 1200);
    private static final int[] WISHES = {
        0, 1, 15, 16, 31, 32, 120, 128, 248, 255, 256, 263, 264, 265, 272, 504, 512, 520, 528, 1016,
        1024, 2040, 2047, 2048, 2056, 2112, 4000, 4079, 4080, 4094, 4095
    };
    private static final String[] NAMES = {
        "", "a", "b", "ab", "aa", "abc", "abcdefgh", "zzzzzzzz", "abcdefgi", "lake", "lane", "z"
    };

    private final int seed;
    private final Random random;
    private final Desk desk = new Desk();
    private final Model model = new Model();
    private int closed = 0;
    private final int reach;
    private static final TreeMap<String, Integer> SEEN = new TreeMap<>();

    private ModelTest(int seed) {
        this.seed = seed;
        this.random = new Random(seed);
        this.reach = new int[] {4, 40, 700, 4096}[seed % 4];
    }

    public static void main(String[] args) {
        for (int seed = 0; seed < RUNS; seed++) {
            new ModelTest(seed).run();
        }
        if (Boolean.getBoolean("seen")) {
            System.out.println(SEEN);
        }
        System.out.println(RUNS + " runs answered as the model");
    }

    private void run() {
        if (seed % 20 == 9) {
            crowd(2);
        }
        if (seed % 20 == 19) {
            crowd(1);
        }
        if (seed % 3 > 0) {
            for (int i = 0; i < 3 + pick(6); i++) {
                feature();
            }
            region();
        }
        while (desk.callsLeft() > 0) {
            step();
        }
    }

    private void same(String call, IntSupplier got, IntSupplier due) {
        if (desk.callsLeft() == 0) {
            return;
        }
        String a = answer(got);
        String b = answer(due);
        String name = call.substring(0, call.indexOf('('));
        String kind = b.startsWith("throws") ? b : b.equals("-1") ? "NONE" : b.equals("0") ? "0" : "n";
        SEEN.merge(name + " " + kind, 1, Integer::sum);
        if (!a.equals(b)) {
            System.out.println("run " + seed + ": " + call + " answered " + a + ", due is " + b);
            System.exit(1);
        }
    }

    private static String answer(IntSupplier call) {
        try {
            return Integer.toString(call.getAsInt());
        } catch (RuntimeException e) {
            return "throws." + e.getClass().getSimpleName();
        }
    }

    private int pick(int below) {
        return random.nextInt(below);
    }

    private int coordinate() {
        if (pick(200) == 0) {
            return pick(2) == 0 ? -1 : 4096;
        }
        if (reach == 4096 && pick(2) == 0) {
            return WISHES[pick(WISHES.length)];
        }
        int near = reach == 4 ? 254 : reach == 40 ? 240 : 0;
        return Math.min(4095, near + pick(reach));
    }

    private void step() {
        int chance = pick(100);
        if (chance < 30) {
            feature();
        } else if (chance < 34) {
            int number = number();
            same("drop(" + number + ")", () -> desk.drop(number) ? 1 : 0, () -> model.drop(number) ? 1 : 0);
        } else if (chance < 39) {
            close();
        } else if (chance < 59) {
            tile();
        } else if (chance < 65) {
            region();
        } else if (chance < 71) {
            extract(edition());
            pack();
        } else if (chance < 75) {
            difference(edition(), edition());
            told();
        } else if (chance < 77) {
            same("apply()", desk::apply, model::apply);
            pack();
        } else if (chance < 84) {
            bring();
        } else if (chance < 92) {
            names();
        } else {
            near();
        }
    }

    /** Stars with tips outside of a tile, or lines to and fro through it: tiles of many bytes. */
    private void crowd(int kind) {
        for (int n = 1; n <= 24; n++) {
            for (int i = 0; i < 12; i++) {
                if (kind == 2) {
                    double angle = (i + 0.5 * random.nextDouble()) * Math.PI / 6;
                    double far = i % 2 == 0 ? 60 + pick(70) : 150 + pick(300);
                    corner((int) (640 + far * Math.cos(angle)), (int) (640 + far * Math.sin(angle)));
                } else {
                    corner((i % 2 == 0 ? 400 : 800) + pick(80), 510 + pick(260));
                }
            }
            int number = n * 300;
            same("feature(" + number + ")",
                    () -> desk.feature(number, kind, 9, 0, 0L), () -> model.feature(number, kind, 9, 0, 0L));
        }
        same("tile(0, 4, 2, 2)", () -> desk.tile(0, 4, 2, 2), () -> model.tile(0, 4, 2, 2));
        octets();
    }

    private int number() {
        return pick(60) == 0 ? pick(3) * 5000 : pick(8) == 0 ? 9990 + pick(12) : 1 + pick(30);
    }

    private int edition() {
        return pick(3) == 0 ? 0 : pick(20) == 0 ? pick(5) - 2 + closed : Math.max(closed - pick(2), 0);
    }

    private void corner(int x, int y) {
        same("corner(" + x + ", " + y + ")", () -> desk.corner(x, y) ? 1 : 0, () -> model.corner(x, y) ? 1 : 0);
    }

    private void feature() {
        int kind = pick(40) == 0 ? pick(5) - 1 : pick(3);
        if (kind == 2 && pick(3) > 0) {
            ring();
        } else {
            int corners = kind == 0 ? 1 : 1 + kind + pick(pick(2) == 0 ? 3 : 11);
            for (int i = 0; i < corners + (pick(60) == 0 ? 1 : 0); i++) {
                corner(coordinate(), coordinate());
            }
        }
        int number = number();
        int sort = pick(60) == 0 ? pick(2) * 11 - 1 : pick(4) == 0 ? pick(10) : pick(2);
        int least = pick(60) == 0 ? pick(2) * 6 - 1 : pick(2) * pick(5);
        long word = word();
        same("feature(" + number + ", " + kind + ", " + sort + ", " + least + ", " + word + ")",
                () -> desk.feature(number, kind, sort, least, word),
                () -> model.feature(number, kind, sort, least, word));
    }

    /** A comb, or corners round a middle by their angle: rings that are mostly sound. */
    private void ring() {
        int x = coordinate();
        int y = coordinate();
        int size = 3 + pick(reach);
        if (pick(3) == 0) {
            boolean flip = pick(2) == 0;
            for (int i = 0; i < 10; i++) {
                int across = i % 2 == 0 ? x : x + size / 2 + pick(size);
                int along = y + i * size / 10;
                corner(flip ? along : across, flip ? across : along);
            }
            int back = x - 1 - pick(size);
            corner(flip ? y + size : back, flip ? back : y + size);
            corner(flip ? y : back, flip ? back : y);
            return;
        }
        int corners = 3 + pick(10);
        double[] angles = random.doubles(corners, 0, 2 * Math.PI).sorted().toArray();
        for (double angle : angles) {
            double far = size * (0.3 + random.nextDouble());
            corner((int) Math.floor(x + far * Math.cos(angle)), (int) Math.floor(y + far * Math.sin(angle)));
        }
    }

    private long word() {
        if (pick(50) == 0) {
            return new long[] {-1L, 0x6100L, 0x41L, 0x7bL, 0x60L, 0x610062L, 0x8061626364656667L}[pick(7)];
        }
        long word = 0;
        for (char letter : NAMES[pick(NAMES.length)].toCharArray()) {
            word = word << 8 | letter;
        }
        return word;
    }

    private void tile() {
        int edition = edition();
        int z = pick(40) == 0 ? pick(2) * 6 - 1 : pick(5);
        int side = 1 << Math.max(0, Math.min(z, 4));
        int tx = pick(40) == 0 ? pick(2) * (side + 1) - 1 : pick(3) == 0 ? pick(side) : pick(Math.min(side, 2));
        int ty = pick(40) == 0 ? pick(2) * (side + 1) - 1 : pick(3) == 0 ? pick(side) : pick(Math.min(side, 2));
        same("tile(" + edition + ", " + z + ", " + tx + ", " + ty + ")",
                () -> desk.tile(edition, z, tx, ty), () -> model.tile(edition, z, tx, ty));
        octets();
    }

    /** All of a few bytes, some of many. */
    private void octets() {
        int size = 0;
        while (model.octet(size) != -1) {
            size++;
        }
        for (int i = -1; i <= size; i++) {
            if (size < 16 || i == 0 || i >= size - 1 || pick(size) < 10) {
                int at = i;
                same("octet(" + at + ")", () -> desk.octet(at), () -> model.octet(at));
            }
        }
    }

    private void region() {
        int[] v = {coordinate(), coordinate(), coordinate(), coordinate()};
        if (pick(3) == 0) {
            v = new int[] {0, 0, 4095, 4095};
        } else if (pick(20) > 0) {
            v = new int[] {Math.min(v[0], v[2]), Math.min(v[1], v[3]), Math.max(v[0], v[2]), Math.max(v[1], v[3])};
        }
        int[] w = v;
        int zoom = pick(40) == 0 ? pick(2) * 6 - 1 : pick(5);
        same("region(" + java.util.Arrays.toString(w) + ", " + zoom + ")", () -> {
            desk.region(w[0], w[1], w[2], w[3], zoom);
            return 0;
        }, () -> {
            model.region(w[0], w[1], w[2], w[3], zoom);
            return 0;
        });
    }

    private void pack() {
        for (int what = pick(10) == 0 ? -1 : 0; what < 5 + pick(10) / 9; what++) {
            int w = what;
            same("pack(" + w + ")", () -> desk.pack(w), () -> model.pack(w));
        }
        int tiles = Math.max(0, model.pack(0));
        for (int i = 0; i < Math.min(tiles + 1, 4); i++) {
            packed(pick(20) == 0 ? pick(2) * (tiles + 1) - 1 : pick(tiles + 1));
        }
        int k = pick(tiles + 1);
        take(model.packed(k, 0), model.packed(k, 1), model.packed(k, 2));
        if (pick(4) == 0) {
            take(pick(6), pick(16), pick(16));
        }
    }

    private void packed(int k) {
        for (int what = pick(10) == 0 ? -1 : 0; what < 5 + pick(10) / 9; what++) {
            int w = what;
            same("packed(" + k + ", " + w + ")", () -> desk.packed(k, w), () -> model.packed(k, w));
        }
    }

    private void take(int z, int tx, int ty) {
        same("take(" + z + ", " + tx + ", " + ty + ")", () -> desk.take(z, tx, ty), () -> model.take(z, tx, ty));
        octets();
    }

    private void extract(int edition) {
        same("extract(" + edition + ")", () -> desk.extract(edition), () -> model.extract(edition));
    }

    private void difference(int from, int to) {
        same("difference(" + from + ", " + to + ")",
                () -> desk.difference(from, to), () -> model.difference(from, to));
    }

    private void close() {
        same("edition()", desk::edition, model::edition);
        closed++;
    }

    /** The calls that bring a pack over, mostly with nothing between them that would refuse it. */
    private void bring() {
        boolean news = pick(2) == 0;
        if (news) {
            close();
            feature();
        }
        boolean back = pick(2) == 0;
        int from = news ? (back ? 0 : closed) : edition();
        int to = news ? (back ? closed : 0) : edition();
        if (pick(2) == 0) {
            extract(from);
            difference(from, to);
        } else {
            difference(from, to);
            extract(from);
        }
        if (pick(3) == 0) {
            step();
        }
        same("apply()", desk::apply, model::apply);
        pack();
        names();
        near();
    }

    private void told() {
        int told = 0;
        while (model.differs(told, 0) != -1) {
            told++;
        }
        for (int i = 0; i < Math.min(told + 1, 5); i++) {
            int k = pick(20) == 0 ? pick(2) * (told + 1) - 1 : pick(told + 1);
            for (int what = pick(10) == 0 ? -1 : 0; what < 5 + pick(10) / 9; what++) {
                int w = what;
                same("differs(" + k + ", " + w + ")", () -> desk.differs(k, w), () -> model.differs(k, w));
            }
        }
    }

    private void names() {
        long word = pick(2) == 0 ? word() : word() >>> 8 * pick(8);
        for (int i = 0; i < 3; i++) {
            int at = pick(30) == 0 ? -1 : pick(pick(4) > 0 ? 3 : 25);
            same("lookUp(" + word + ", " + at + ")", () -> desk.lookUp(word, at), () -> model.lookUp(word, at));
        }
    }

    private void near() {
        boolean far = pick(5) == 0;
        int x = far ? (pick(2) == 0 ? Integer.MIN_VALUE : Integer.MAX_VALUE) : coordinate();
        int y = far ? (pick(2) == 0 ? Integer.MIN_VALUE : Integer.MAX_VALUE) : coordinate();
        int sort = pick(4) > 0 ? pick(2) : pick(12) - 1;
        for (int i = 0; i < 3; i++) {
            int at = pick(30) == 0 ? -1 : pick(pick(4) > 0 ? 2 : 8);
            same("near(" + x + ", " + y + ", " + sort + ", " + at + ")",
                    () -> desk.near(x, y, sort, at), () -> model.near(x, y, sort, at));
        }
    }
}
