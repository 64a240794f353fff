import java.util.NoSuchElementException;

/** Promise by promise, with answers that were reckoned by hand from the document. */
public final class PromiseTest {
    private static final Class<IllegalArgumentException> ARGUMENT = IllegalArgumentException.class;
    private static final Class<IllegalStateException> STATE = IllegalStateException.class;
    private static final Class<IndexOutOfBoundsException> INDEX = IndexOutOfBoundsException.class;
    private static final Class<NoSuchElementException> NO_SUCH = NoSuchElementException.class;

    private PromiseTest() {}

    public static void main(String[] args) {
        promise1();
        promise2();
        promise3();
        promise3Names();
        promise3Areas();
        promise4();
        promise5();
        promise6Steps();
        promise6Simpler();
        promise6Cut();
        promise6CutOrder();
        promise6CutAreas();
        promise6Written();
        promise6Wrong();
        promise7();
        promise8();
        promise9();
        promise9Meeting();
        promise9Tiles();
        promise9Shared();
        promise10();
        promise10First();
        promise11();
        promise12();
        promise13();
        promise13Refused();
        promise14();
        promise14Most();
        promise15();
        promise15Shared();
        promise15Refused();
        promise16();
        promise17();
        Check.end();
    }

    private static long word(String name) {
        long word = 0;
        for (char letter : name.toCharArray()) {
            word = word << 8 | letter;
        }
        return word;
    }

    private static long one(boolean answer) {
        return answer ? 1 : 0;
    }

    private static void corners(Desk desk, int... v) {
        for (int i = 0; i < v.length; i += 2) {
            if (!desk.corner(v[i], v[i + 1])) {
                Check.due("corner(" + v[i] + ", " + v[i + 1] + ")", false, true);
            }
        }
    }

    private static int put(Desk desk, int number, int kind, int least, int... v) {
        corners(desk, v);
        return desk.feature(number, kind, 0, least, 0L);
    }

    private static long region(Desk desk, int x0, int y0, int x1, int y1, int zoom) {
        desk.region(x0, y0, x1, y1, zoom);
        return 0;
    }

    private static String inHand(Desk desk) {
        StringBuilder text = new StringBuilder();
        int octet = desk.octet(0);
        for (int i = 1; octet != AtlasDesk.NONE; i++) {
            text.append(i == 1 ? "" : " ").append(octet);
            octet = desk.octet(i);
        }
        return text.toString();
    }

    private static void dueTile(Desk desk, int edition, int z, int tx, int ty, String bytes) {
        String call = "tile(" + edition + ", " + z + ", " + tx + ", " + ty + ")";
        int size = bytes.isEmpty() ? 0 : bytes.split(" ").length;
        Check.due(call, () -> desk.tile(edition, z, tx, ty), size);
        Check.due("the bytes of " + call, inHand(desk), bytes);
    }

    /** A tile of a new object with one feature, number 1 of class 0. */
    private static void dueAlone(int kind, int z, int tx, int ty, String bytes, int... v) {
        Desk desk = new Desk();
        put(desk, 1, kind, 0, v);
        dueTile(desk, 0, z, tx, ty, bytes);
    }

    private static void dueFeature(boolean sound, int kind, int... v) {
        Desk desk = new Desk();
        String call = "feature of kind " + kind + " with corners " + java.util.Arrays.toString(v);
        if (sound) {
            Check.due(call, () -> put(desk, 1, kind, 0, v), 1);
        } else {
            Check.thrown(call, ARGUMENT, () -> put(desk, 1, kind, 0, v));
            Check.due("drop(1) behind it", () -> one(desk.drop(1)), 0);
        }
    }

    private static void promise1() {
        Desk desk = new Desk();
        Check.due("NONE", () -> AtlasDesk.NONE, -1);
        Check.due("octet(0) of a new object", () -> desk.octet(0), -1);
        Check.due("packed(0, 0) of a new object", () -> desk.packed(0, 0), -1);
        Check.due("differs(0, 0) of a new object", () -> desk.differs(0, 0), -1);
        for (int what = 0; what < 5; what++) {
            int w = what;
            Check.due("pack(" + w + ") of a new object", () -> desk.pack(w), -1);
        }
        Check.due("take(0, 0, 0) of a new object", () -> desk.take(0, 0, 0), 0);
        Check.due("tile(0, 0, 0, 0) of a new object", () -> desk.tile(0, 0, 0, 0), 0);
        Check.thrown("tile(1, 0, 0, 0) of a new object", INDEX, () -> desk.tile(1, 0, 0, 0));
        Check.thrown("extract(0) of a new object", STATE, () -> desk.extract(0));
        Check.thrown("difference(0, 0) of a new object", STATE, () -> desk.difference(0, 0));
        Check.thrown("apply() of a new object", STATE, desk::apply);
        Check.thrown("lookUp(0, 0) of a new object", NO_SUCH, () -> desk.lookUp(0L, 0));
        Check.thrown("near(0, 0, 0, 0) of a new object", NO_SUCH, () -> desk.near(0, 0, 0, 0));
        Check.thrown("a point without a corner", ARGUMENT, () -> desk.feature(1, 0, 0, 0, 0L));
        Check.due("drop(1) of a new object", () -> one(desk.drop(1)), 0);
        Check.due("edition() of a new object", desk::edition, 1);
    }

    private static void promise2() {
        Desk desk = new Desk();
        int[][] outside = {{-1, 0}, {0, -1}, {4096, 0}, {0, 4096},
            {Integer.MIN_VALUE, 5}, {5, Integer.MIN_VALUE}, {Integer.MAX_VALUE, 5}, {5, Integer.MAX_VALUE}};
        for (int[] v : outside) {
            Check.due("corner(" + v[0] + ", " + v[1] + ")", () -> one(desk.corner(v[0], v[1])), 0);
        }
        Check.due("corner(0, 4095)", () -> one(desk.corner(0, 4095)), 1);
        Check.due("corner(4095, 0)", () -> one(desk.corner(4095, 0)), 1);
        for (int i = 0; i < 10; i++) {
            int x = i;
            Check.due("corner " + (i + 3), () -> one(desk.corner(x, 7)), 1);
        }
        Check.due("a 13th corner", () -> one(desk.corner(50, 50)), 0);
        Check.due("a line of 12", () -> desk.feature(1, 1, 0, 4, 0L), 1);
        Check.due("corner(50, 50) for the next feature", () -> one(desk.corner(50, 50)), 1);
        Check.due("a point of it", () -> desk.feature(2, 0, 0, 4, 0L), 2);
    }

    private static void promise3() {
        Desk desk = new Desk();
        int[][] wrong = {{0, 0, 0, 0}, {-5, 0, 0, 0}, {10000, 0, 0, 0}, {1, -1, 0, 0}, {1, 3, 0, 0},
            {1, 0, -1, 0}, {1, 0, 10, 0}, {1, 0, 0, -1}, {1, 0, 0, 5}};
        for (int[] v : wrong) {
            corners(desk, 5, 5);
            Check.thrown("feature(" + java.util.Arrays.toString(v) + ")", ARGUMENT,
                    () -> desk.feature(v[0], v[1], v[2], v[3], 0L));
        }
        Check.due("feature 1", () -> put(desk, 1, 0, 0, 1, 1), 1);
        Check.due("feature 9999", () -> put(desk, 9999, 0, 4, 2, 2), 2);
        Check.due("feature 1 again", () -> put(desk, 1, 0, 4, 3, 3), 2);
        dueTile(desk, 0, 4, 0, 0, "1 0 1 1 6 6 142 78 0 1 1 4 4");
        dueTile(desk, 0, 3, 0, 0, "");

        corners(desk, 1, 1, 2, 2);
        Check.thrown("a line with a bad name", ARGUMENT, () -> desk.feature(2, 1, 0, 0, 1L));
        Check.due("a point: the line's corners are used up", () -> put(desk, 2, 0, 0, 4, 4), 3);

        for (int number = 3; number <= 23; number++) {
            int n = number;
            Check.due("feature " + n, () -> put(desk, n, 0, 0, n, n), n + 1);
        }
        Check.thrown("a 25th feature", STATE, () -> put(desk, 24, 0, 0, 9, 9));
        Check.due("one in the place of feature 23", () -> put(desk, 23, 0, 0, 9, 9), 24);
        corners(desk, 9, 9);
        Check.thrown("a 25th feature of no class", ARGUMENT, () -> desk.feature(24, 0, 10, 0, 0L));
        Check.due("drop(24)", () -> one(desk.drop(24)), 0);
        Check.due("drop(5)", () -> one(desk.drop(5)), 1);
        Check.due("feature 24", () -> put(desk, 24, 0, 0, 9, 9), 24);
    }

    private static void promise3Names() {
        Desk desk = new Desk();
        long[] wrong = {'A', 'a' - 1, 'z' + 1, 0x6100L, 0x610062L, 0x6100000000000000L, 1L, ' ', -1L,
            Long.MIN_VALUE, 0xE1L, word("abcdefgH"), word("Abcdefgh")};
        for (long name : wrong) {
            corners(desk, 5, 5);
            Check.thrown("a feature with the name " + name, ARGUMENT, () -> desk.feature(1, 0, 0, 0, name));
        }
        for (String name : new String[] {"", "a", "z", "az", "abcdefgh", "zzzzzzzz"}) {
            corners(desk, 5, 5);
            Check.due("a feature with the name " + name, () -> desk.feature(1, 0, 0, 0, word(name)), 1);
        }
    }

    private static void promise3Areas() {
        dueFeature(false, 0);
        dueFeature(false, 0, 1, 1, 2, 2);
        dueFeature(false, 1);
        dueFeature(false, 1, 1, 1);
        dueFeature(false, 1, 1, 1, 2, 2, 2, 2);
        dueFeature(false, 1, 1, 1, 1, 1, 2, 2);
        dueFeature(true, 1, 1, 1, 2, 2, 1, 1);
        dueFeature(true, 1, 0, 0, 10, 10, 10, 0, 0, 10);
        dueFeature(true, 1, 0, 0, 10, 0, 5, 0);
        dueFeature(false, 2, 0, 0, 9, 9);
        dueFeature(true, 2, 0, 0, 9, 9, 9, 8);
        dueFeature(false, 2, 0, 0, 9, 9, 5, 5);
        dueFeature(false, 2, 5, 5, 0, 0, 9, 9);
        dueFeature(false, 2, 0, 0, 9, 9, 9, 9, 0, 5);
        dueFeature(false, 2, 0, 0, 9, 0, 9, 9, 0, 0);
        dueFeature(true, 2, 0, 0, 5, 0, 9, 0, 9, 9);
        dueFeature(false, 2, 0, 0, 9, 9, 9, 0, 0, 9);
        // An edge that folds back, between the first two and between the last two of its corners.
        dueFeature(false, 2, 0, 0, 9, 0, 5, 0, 5, 9);
        dueFeature(false, 2, 5, 9, 0, 0, 9, 0, 5, 0);
        dueFeature(false, 2, 0, 0, 9, 0, 9, 9, 9, 4);
        dueFeature(false, 2, 0, 0, 9, 0, 9, 9, 5, 0);
        dueFeature(true, 2, 5, 0, 9, 0, 9, 9, 0, 0);
        dueFeature(false, 2, 2000, 2000, 2003, 2003, 2001, 2001, 2000, 2009);
        dueFeature(false, 2, 2003, 2000, 2000, 2003, 2002, 2001, 2009, 2009);
        dueFeature(false, 2, 2000, 2000, 2000, 2002, 2000, 2001, 2009, 2009);
        dueFeature(false, 2, 2000, 2002, 2000, 2000, 2000, 2001, 2009, 2009);
        dueFeature(true, 2, 2000, 2000, 2001, 2001, 2003, 2003, 2000, 2009);
        // A corner on an edge that is no neighbour, upright, aslant, from each side of it.
        dueFeature(false, 2, 0, 0, 5, 5, 0, 9, 20, 9, 5, 4, 5, 6, 20, 0);
        dueFeature(false, 2, 0, 0, 10, 10, 0, 20, 30, 20, 10, 10, 30, 0);
        dueFeature(false, 2, 0, 0, 0, 10, 20, 10, 0, 5, 20, 0);
        dueFeature(false, 2, 20, 0, 0, 5, 20, 10, 0, 10, 0, 0);
        dueFeature(false, 2, 0, 0, 20, 40, 12, 40, 10, 20, 0, 40);
        dueFeature(true, 2, 0, 0, 20, 40, 12, 40, 9, 20, 0, 40);
        dueFeature(true, 2, 0, 0, 0, 10, 20, 10, 1, 5, 20, 0);
        // The same, and a corner that two rings would share.
        dueFeature(false, 2, 0, 0, 10, 0, 10, 10, 5, 0, 0, 10);
        dueFeature(false, 2, 0, 0, 10, 0, 5, 5, 10, 10, 0, 10, 5, 5);
        dueFeature(true, 2, 0, 0, 10, 0, 10, 10, 5, 1, 0, 10);
        // Edges on one line, apart, and with a part in common.
        dueFeature(true, 2, 0, 0, 4, 0, 4, 4, 6, 4, 6, 0, 10, 0, 10, 9, 0, 9);
        dueFeature(false, 2, 0, 0, 6, 0, 6, 4, 4, 4, 4, 0, 10, 0, 10, 9, 0, 9);
        dueFeature(true, 2, 0, 0, 4095, 0, 4095, 4095, 0, 4095);
        dueFeature(false, 2, 0, 0, 4095, 4095, 4095, 0, 0, 4095);
        // Of thin ones only whole numbers tell whether an edge meets another.
        dueFeature(true, 2, 0, 0, 4095, 4094, 4094, 4093);
        dueFeature(true, 2, 0, 0, 4095, 4095, 4094, 4095, 1, 2);
        dueFeature(false, 2, 0, 0, 4095, 4094, 4095, 4095, 3, 2);
    }

    private static void promise4() {
        Desk desk = new Desk();
        put(desk, 5, 0, 0, 5, 5);
        put(desk, 3, 0, 0, 3, 3);
        put(desk, 4, 0, 0, 4, 4);
        Check.due("drop(6)", () -> one(desk.drop(6)), 0);
        Check.due("drop(0)", () -> one(desk.drop(0)), 0);
        Check.due("drop(-4)", () -> one(desk.drop(-4)), 0);
        Check.due("drop(4)", () -> one(desk.drop(4)), 1);
        Check.due("drop(4) again", () -> one(desk.drop(4)), 0);
        dueTile(desk, 0, 4, 0, 0, "3 0 1 1 6 6 2 0 1 1 10 10");
        Check.due("feature 4", () -> put(desk, 4, 0, 0, 1, 1), 3);
        dueTile(desk, 0, 4, 0, 0, "3 0 1 1 6 6 1 0 1 1 2 2 1 0 1 1 10 10");
        desk.corner(7, 7);
        desk.drop(3);
        Check.due("a point with the corner told before", () -> desk.feature(6, 0, 0, 0, 0L), 3);
    }

    private static void promise5() {
        Desk desk = new Desk();
        put(desk, 1, 0, 0, 1, 1);
        Check.due("edition()", desk::edition, 1);
        put(desk, 1, 0, 0, 2, 2);
        put(desk, 2, 0, 0, 3, 3);
        Check.due("edition()", desk::edition, 2);
        desk.drop(1);
        dueTile(desk, 1, 4, 0, 0, "1 0 1 1 2 2");
        dueTile(desk, 2, 4, 0, 0, "1 0 1 1 4 4 1 0 1 1 6 6");
        dueTile(desk, 0, 4, 0, 0, "2 0 1 1 6 6");
        Check.due("edition()", desk::edition, 3);
        dueTile(desk, 0, 4, 0, 0, "2 0 1 1 6 6");
        dueTile(desk, 3, 4, 0, 0, "2 0 1 1 6 6");
        dueTile(desk, 2, 4, 0, 0, "1 0 1 1 4 4 1 0 1 1 6 6");
        Check.thrown("tile of edition 1, which is not kept", INDEX, () -> desk.tile(1, 4, 0, 0));
        Check.thrown("tile of edition 4", INDEX, () -> desk.tile(4, 4, 0, 0));
        Check.thrown("tile of edition -1", INDEX, () -> desk.tile(-1, 4, 0, 0));
        for (int number = 4; number < 20; number++) {
            Check.due("edition()", desk::edition, number);
        }
        dueTile(desk, 18, 4, 0, 0, "2 0 1 1 6 6");
        Check.thrown("tile of edition 17", INDEX, () -> desk.tile(17, 4, 0, 0));
    }

    private static void promise6Steps() {
        Desk desk = new Desk();
        put(desk, 1, 0, 2, 31, 16);
        dueTile(desk, 0, 1, 0, 0, "");
        dueTile(desk, 0, 2, 0, 0, "1 0 1 1 14 8");
        dueTile(desk, 0, 3, 0, 0, "1 0 1 1 30 16");
        dueTile(desk, 0, 4, 0, 0, "1 0 1 1 62 32");
        dueAlone(0, 0, 0, 0, "1 0 1 1 2 2", 31, 16);
        dueAlone(0, 1, 1, 0, "1 0 1 1 0 0", 2048, 7);
        dueAlone(0, 1, 0, 0, "1 0 1 1 128 4 0", 2048, 7);
        dueAlone(0, 4, 15, 15, "1 0 1 1 254 3 254 3", 4095, 4095);
    }

    private static void promise6Simpler() {
        // 2 steps away stays, less goes; along an axis and aslant (50 steps long, 100 / 50 = 2).
        dueAlone(1, 4, 0, 0, "1 1 1 3 0 0 20 4 20 3", 0, 0, 10, 2, 20, 0);
        dueAlone(1, 4, 0, 0, "1 1 1 2 0 0 40 0", 0, 0, 10, 1, 20, 0);
        dueAlone(1, 4, 0, 0, "1 1 1 3 0 0 10 20 50 60", 0, 0, 5, 10, 30, 40);
        dueAlone(1, 4, 0, 0, "1 1 1 2 0 0 60 80", 0, 0, 3, 7, 30, 40);
        // From the line through the two, not from the part between them.
        dueAlone(1, 4, 0, 0, "1 1 1 2 20 0 40 0", 10, 0, 50, 1, 30, 0);
        dueAlone(1, 4, 0, 0, "1 1 1 2 0 0 80 0", 0, 0, 10, 1, 20, 1, 30, 1, 40, 0);
        dueAlone(1, 4, 0, 0, "1 1 1 3 200 1 200 1 0 4 0 3", 100, 100, 100, 102, 100, 100);
        dueAlone(1, 4, 0, 0, "", 100, 100, 100, 101, 99, 100, 100, 99, 100, 100);
        dueAlone(1, 4, 0, 0, "1 1 1 3 200 1 200 1 7 80 8 79", 100, 100, 96, 140, 100, 100);
        // Of two alike the first; then on both sides of it.
        dueAlone(1, 4, 0, 0, "1 1 1 3 0 0 20 6 20 5", 0, 0, 10, 3, 14, 3, 20, 0);
        dueAlone(1, 4, 0, 0, "1 1 1 4 0 0 20 80 20 79 20 80", 0, 0, 10, 40, 20, 0, 30, 40);
        // Both ends in one place: from that point.
        dueAlone(1, 4, 0, 0, "1 1 1 3 200 1 200 1 4 0 3 0", 100, 100, 102, 100, 100, 100);
        dueAlone(1, 4, 0, 0, "", 100, 100, 101, 101, 100, 100);
        // Corners that fall into one place.
        dueAlone(1, 0, 0, 0, "", 0, 0, 15, 15);
        dueAlone(1, 0, 0, 0, "1 1 1 2 0 0 2 0", 0, 0, 16, 0);
        dueAlone(1, 0, 0, 0, "1 1 1 3 0 0 4 0 3 0", 0, 0, 32, 0, 33, 1, 1, 1);
        // An area: its first corner stays, and what is 2 steps away from it.
        dueAlone(2, 0, 0, 0, "", 0, 0, 16, 0, 16, 16);
        dueAlone(2, 0, 0, 0, "", 0, 0, 64, 0, 64, 32);
        dueAlone(2, 0, 0, 0, "1 2 1 3 0 0 8 0 0 6", 0, 0, 64, 0, 64, 48);
        dueAlone(2, 0, 0, 0, "1 2 1 4 0 0 8 0 0 8 7 0", 0, 0, 64, 0, 64, 64, 0, 64);
        dueAlone(2, 4, 0, 0, "1 2 1 4 0 0 80 0 0 80 79 0", 0, 0, 20, 1, 40, 0, 40, 40, 0, 40);
        dueAlone(2, 4, 0, 0, "1 2 1 5 0 0 40 4 40 3 0 80 79 0", 0, 0, 20, 2, 40, 0, 40, 40, 0, 40);
        dueAlone(2, 0, 0, 0, "1 2 1 3 0 0 8 0 0 8", 0, 0, 64, 0, 64, 64, 5, 9);
    }

    private static void promise6Cut() {
        dueAlone(0, 4, 0, 0, "1 0 1 1 144 4 144 4", 264, 264);
        dueAlone(0, 4, 0, 0, "", 265, 0);
        dueAlone(0, 4, 0, 0, "", 0, 265);
        dueAlone(0, 4, 1, 1, "1 0 1 1 15 15", 248, 248);
        dueAlone(0, 4, 1, 1, "", 247, 300);
        dueAlone(0, 4, 1, 1, "", 300, 247);
        // Halves upwards, whichever way the line goes.
        dueAlone(1, 4, 0, 0, "1 1 1 2 136 4 20 8 2", 260, 10, 268, 11);
        dueAlone(1, 4, 0, 0, "1 1 1 2 136 4 22 8 0", 260, 11, 268, 10);
        dueAlone(1, 4, 0, 0, "1 1 1 2 144 4 22 7 1", 268, 11, 260, 10);
        dueAlone(1, 4, 0, 0, "1 1 1 2 20 136 4 2 8", 10, 260, 11, 268);
        dueAlone(1, 4, 0, 0, "1 1 1 2 22 136 4 0 8", 11, 260, 10, 268);
        dueAlone(1, 4, 1, 0, "1 1 1 2 15 20 8 0", 244, 10, 252, 10);
        // An end that is gone with its piece, before and behind one that stays.
        dueAlone(1, 4, 0, 0, "1 1 1 3 144 4 20 199 2 0 200 2 0", 300, 60, 264, 90, 300, 120, 300, 10,
                264, 10, 100, 10, 264, 10, 300, 40);
        dueAlone(1, 4, 0, 0, "1 1 1 2 200 1 20 200 2 0", 100, 10, 264, 10, 300, 40, 264, 90, 300, 120);
        dueAlone(1, 4, 0, 0, "1 1 1 2 144 4 20 199 2 0", 300, 120, 264, 90, 300, 40, 264, 10, 100, 10);
        // Through a whole tile; a bend outside; an end outside makes another piece.
        dueAlone(1, 4, 1, 0, "1 1 1 2 15 20 160 4 0", 0, 10, 1000, 10);
        dueAlone(1, 4, 0, 0, "1 1 2 2 200 1 20 200 2 0 2 0 200 1 199 2 0", 100, 10, 364, 10, 364, 110, 100, 110);
        // A touch from outside leaves one corner, which is gone; one from inside does not part it.
        dueAlone(1, 4, 0, 0, "", 300, 10, 264, 20, 300, 30);
        dueAlone(1, 4, 0, 0, "1 1 1 3 200 1 20 200 2 20 199 2 20", 100, 10, 264, 20, 100, 30);
        dueAlone(1, 4, 0, 0, "1 1 1 2 144 4 0 0 20", 264, 0, 264, 10);
        dueAlone(1, 4, 0, 0, "1 1 1 2 200 1 20 200 2 0", 100, 10, 264, 10, 300, 90);
        dueAlone(1, 4, 0, 0, "1 1 1 2 144 4 20 199 2 0", 300, 90, 264, 10, 100, 10);
        // Past the tile's corner: inside of each side, but not of all of them.
        dueAlone(1, 4, 0, 0, "", 200, 400, 400, 200);
        // Where the first cut puts a corner, in whole numbers, the next one starts from.
        dueAlone(1, 4, 1, 1, "1 1 1 2 11 15 14 6", 247, 246, 257, 251);
    }

    /** The sides one after the other: 480 / 321 is 1 in whole numbers, 480 / 320 would be 2. */
    private static void promise6CutOrder() {
        dueAlone(1, 4, 1, 0, "1 1 1 2 15 2 160 4 18", 200, 0, 521, 10);
        dueAlone(1, 4, 1, 0, "1 1 1 2 144 4 20 159 4 17", 521, 10, 200, 0);
        dueAlone(1, 4, 0, 1, "1 1 1 2 2 15 18 160 4", 0, 200, 10, 521);
        dueAlone(1, 4, 0, 1, "1 1 1 2 20 144 4 17 159 4", 10, 521, 0, 200);
    }

    private static void promise6CutAreas() {
        // From the first corner on, whether it is inside or not.
        dueAlone(2, 4, 0, 0, "1 2 1 4 200 1 200 1 200 2 0 0 200 2 199 2 0", 100, 100, 300, 100, 300, 300, 100, 300);
        dueAlone(2, 4, 0, 0, "1 2 1 4 200 1 144 4 0 199 2 200 2 0 0 200 2", 300, 100, 300, 300, 100, 300, 100, 100);
        // All of the tile, and nothing of it though it goes round it.
        dueAlone(2, 4, 5, 5, "1 2 1 4 144 4 15 0 160 4 159 4 0 0 159 4",
                0, 0, 4095, 0, 4095, 4095, 0, 4095);
        dueAlone(2, 4, 2, 2, "", 0, 0, 1024, 0, 1024, 100, 100, 100, 100, 1024, 0, 1024);
        // It stays one ring where a line would fall into pieces.
        dueAlone(2, 4, 0, 0, "1 2 1 7 200 1 0 200 2 0 0 52 167 1 28 168 1 28 0 52 199 2 0",
                100, 0, 300, 0, 300, 20, 180, 40, 300, 60, 300, 80, 100, 80);
        // On the border is inside; a side alone is no area.
        dueAlone(2, 4, 0, 0, "", 264, 10, 300, 10, 300, 50, 264, 50);
        dueAlone(2, 4, 0, 0, "", 264, 10, 300, 0, 300, 50);
        dueAlone(2, 4, 0, 0, "1 2 1 3 200 1 20 200 2 0 0 80", 100, 10, 264, 10, 264, 50);
    }

    private static void promise6Written() {
        Desk desk = new Desk();
        corners(desk, 64, 63);
        desk.feature(9999, 0, 9, 0, 0L);
        corners(desk, 300, 300, 10, 10, 11, 300);
        desk.feature(128, 1, 3, 0, 0L);
        corners(desk, 0, 0, 50, 0, 50, 50);
        desk.feature(127, 2, 9, 0, 0L);
        corners(desk, 700, 700);
        desk.feature(500, 0, 9, 0, 0L);
        dueTile(desk, 0, 4, 0, 0, "127 38 1 3 0 0 100 0 0 100"
                + " 1 13 1 3 144 4 144 4 251 3 251 3 2 252 3"
                + " 143 77 36 1 1 128 1 126");
        dueTile(desk, 0, 4, 2, 2, "244 3 36 1 1 248 2 248 2");
    }

    private static void promise6Wrong() {
        Desk desk = new Desk();
        put(desk, 1, 0, 0, 0, 0);
        int[][] wrong = {{-1, 0, 0, 0}, {1, 0, 0, 0}, {0, -1, 0, 0}, {0, 5, 0, 0}, {0, 0, 1, 0}, {0, 0, 0, 1},
            {0, 2, -1, 0}, {0, 2, 0, -1}, {0, 2, 4, 0}, {0, 2, 0, 4}, {0, 32, 0, 0}, {0, 4, 16, 15}, {0, 4, 15, 16},
            {Integer.MIN_VALUE, 0, 0, 0}, {Integer.MAX_VALUE, 0, 0, 0}};
        desk.tile(0, 0, 0, 0);
        for (int[] v : wrong) {
            Check.thrown("tile(" + java.util.Arrays.toString(v) + ")", INDEX, () -> desk.tile(v[0], v[1], v[2], v[3]));
        }
        Check.due("the tile in hand behind these", inHand(desk), "1 0 1 1 0 0");
        dueTile(desk, 0, 4, 15, 15, "");
    }

    private static void promise7() {
        Desk desk = new Desk();
        put(desk, 200, 0, 0, 255, 64);
        desk.tile(0, 4, 0, 0);
        int[] due = {200, 1, 0, 1, 1, 254, 3, 128, 1};
        for (int i = 0; i < due.length; i++) {
            int at = i;
            Check.due("octet(" + i + ")", () -> desk.octet(at), due[i]);
        }
        Check.due("octet(9)", () -> desk.octet(9), -1);
        Check.due("octet(-1)", () -> desk.octet(-1), -1);
        Check.due("octet of the least int", () -> desk.octet(Integer.MIN_VALUE), -1);
        Check.due("octet of the greatest int", () -> desk.octet(Integer.MAX_VALUE), -1);
        put(desk, 200, 0, 0, 0, 0);
        desk.drop(200);
        Check.due("octet(0) when the feature is gone", () -> desk.octet(0), 200);
        desk.tile(0, 4, 0, 0);
        Check.due("octet(0) of an empty tile", () -> desk.octet(0), -1);
    }

    private static void promise8() {
        Desk desk = new Desk();
        int[][] wrong = {{-1, 0, 5, 5, 0}, {0, -1, 5, 5, 0}, {0, 0, 4096, 5, 0}, {0, 0, 5, 4096, 0}, {6, 0, 5, 5, 0},
            {0, 6, 5, 5, 0}, {0, 0, 5, 5, -1}, {0, 0, 5, 5, 5}, {-2, 0, -1, 5, 0}, {4096, 0, 4097, 5, 0}};
        for (int[] v : wrong) {
            Check.thrown("region(" + java.util.Arrays.toString(v) + ")", ARGUMENT,
                    () -> region(desk, v[0], v[1], v[2], v[3], v[4]));
        }
        Check.thrown("extract(0) without a region", STATE, () -> desk.extract(0));
        put(desk, 1, 0, 0, 300, 300);
        Check.due("region of one number", () -> region(desk, 300, 300, 300, 300, 2), 0);
        Check.due("extract(0)", () -> desk.extract(0), 3);
        Check.due("difference(0, 0)", () -> desk.difference(0, 0), 0);
        Check.due("apply()", desk::apply, 3);
        Check.thrown("a wrong region", ARGUMENT, () -> region(desk, 301, 300, 300, 300, 2));
        Check.due("apply() behind it", desk::apply, 3);
        Check.due("the same region", () -> region(desk, 300, 300, 300, 300, 2), 0);
        Check.thrown("apply() without a difference", STATE, desk::apply);
        Check.due("pack(0) behind it", () -> desk.pack(0), 3);
        Check.due("region of the whole world", () -> region(desk, 0, 0, 4095, 4095, 0), 0);
        Check.due("extract(0)", () -> desk.extract(0), 1);
    }

    private static void promise9() {
        Desk desk = new Desk();
        region(desk, 0, 0, 255, 255, 4);
        Check.due("extract(0) of nothing", () -> desk.extract(0), 0);
        put(desk, 1, 0, 0, 100, 100);
        Check.due("pack(0) of the old pack", () -> desk.pack(0), 0);
        Check.due("extract(0)", () -> desk.extract(0), 5);
        desk.edition();
        desk.drop(1);
        Check.due("extract(0)", () -> desk.extract(0), 0);
        Check.due("extract(1)", () -> desk.extract(1), 5);
        Check.due("pack(3)", () -> desk.pack(3), 1);
        Check.thrown("extract(2)", INDEX, () -> desk.extract(2));
        Check.thrown("extract(-1)", INDEX, () -> desk.extract(-1));
        Check.due("pack(3) behind these", () -> desk.pack(3), 1);
        desk.edition();
        desk.edition();
        Check.thrown("extract(1), which is not kept", INDEX, () -> desk.extract(1));
        Check.thrown("extract(9) without a region", INDEX, () -> new Desk().extract(9));
        // A tile is the region's by its steps, not by its margin; then it has what the margin has.
        Desk other = new Desk();
        put(other, 1, 0, 4, 260, 100);
        region(other, 0, 0, 255, 255, 4);
        Check.due("extract(0) with a point in the margin", () -> other.extract(0), 1);
        Check.due("pack(4): the point is not within", () -> other.pack(4), 0);
        region(other, 255, 0, 256, 255, 4);
        Check.due("extract(0) of two tiles", () -> other.extract(0), 2);
        region(other, 264, 0, 511, 255, 4);
        Check.due("extract(0) beside the point", () -> other.extract(0), 1);
        region(other, 512, 0, 1023, 255, 4);
        Check.due("extract(0) farther away", () -> other.extract(0), 0);
    }

    private static void dueMeeting(boolean meets, int kind, int... v) {
        Desk desk = new Desk();
        put(desk, 1, kind, 0, v);
        region(desk, 100, 200, 300, 250, 0);
        desk.extract(0);
        Check.due("pack(4), kind " + kind + ", corners " + java.util.Arrays.toString(v), () -> desk.pack(4), one(meets));
    }

    private static void promise9Meeting() {
        dueMeeting(true, 0, 100, 200);
        dueMeeting(true, 0, 300, 250);
        dueMeeting(false, 0, 99, 200);
        dueMeeting(false, 0, 301, 250);
        dueMeeting(false, 0, 100, 199);
        dueMeeting(false, 0, 300, 251);
        dueMeeting(true, 1, 0, 225, 4095, 225);
        dueMeeting(true, 1, 200, 0, 200, 200);
        dueMeeting(false, 1, 200, 0, 200, 199);
        dueMeeting(true, 1, 90, 210, 110, 190);
        dueMeeting(false, 1, 90, 209, 110, 189);
        dueMeeting(true, 1, 310, 240, 290, 260);
        dueMeeting(false, 1, 310, 241, 290, 261);
        dueMeeting(false, 1, 90, 100, 90, 300, 310, 300, 310, 100);
        dueMeeting(false, 1, 4, 8, 4, 4095, 5, 4095);
        dueMeeting(true, 2, 90, 100, 90, 300, 310, 300, 310, 100);
        dueMeeting(true, 2, 310, 100, 310, 300, 90, 300, 90, 100);
        dueMeeting(true, 2, 150, 210, 160, 210, 155, 220);
        dueMeeting(true, 2, 300, 250, 400, 300, 300, 400);
        dueMeeting(false, 2, 301, 250, 400, 300, 301, 400);
        // Round the region, but open to one side.
        dueMeeting(false, 2, 90, 100, 90, 300, 310, 300, 310, 100, 320, 100, 320, 310, 80, 310, 80, 100);
        // Corners of the area as high as the region's, on either side of it.
        dueMeeting(true, 2, 50, 200, 200, 100, 350, 200, 200, 400);
        dueMeeting(false, 2, 50, 200, 60, 100, 70, 200, 60, 400);
        dueMeeting(false, 2, 350, 200, 360, 100, 370, 200, 360, 400);
        dueMeeting(true, 2, 20, 200, 50, 150, 50, 10, 700, 10, 700, 700, 50, 700, 50, 250);
        dueMeeting(false, 2, 20, 200, 50, 150, 80, 200, 50, 250);
        // Past each of the region's corners, and through it, to and fro.
        int[][] corners = {{100, 200, -1, -1}, {300, 200, 1, -1}, {100, 250, -1, 1}, {300, 250, 1, 1}};
        for (int[] c : corners) {
            for (int way = -1; way < 2; way += 2) {
                int x0 = c[0] - 20 * way * c[2];
                int y0 = c[1] + 30 * way * c[3];
                int x1 = c[0] + 20 * way * c[2];
                int y1 = c[1] - 30 * way * c[3];
                dueMeeting(true, 1, x0, y0, x1, y1);
                dueMeeting(false, 1, x0 + c[2], y0, x1 + c[2], y1);
                // Only one end beside the way through the corner.
                dueMeeting(false, 1, x0, y0, x1 + c[2], y1);
                dueMeeting(true, 1, x0, y0, x1 - c[2], y1);
            }
        }
        // Exactly: an edge past the corner (100, 200) by a hair, and one through it.
        dueMeeting(false, 1, 99, 200, 102, 197);
        dueMeeting(true, 1, 99, 201, 102, 198);
        dueMeeting(false, 1, 0, 1000, 124, 7);
        dueMeeting(true, 1, 0, 1000, 125, 0);

        Desk desk = new Desk();
        put(desk, 1, 0, 3, 100, 200);
        region(desk, 100, 200, 100, 200, 2);
        desk.extract(0);
        Check.due("pack(4) below the least zoom", () -> desk.pack(4), 0);
        region(desk, 100, 200, 100, 200, 3);
        desk.extract(0);
        Check.due("pack(4) at the least zoom", () -> desk.pack(4), 1);
        put(desk, 2, 1, 0, 0, 0, 200, 400);
        put(desk, 3, 1, 0, 0, 0, 200, 401);
        desk.extract(0);
        Check.due("pack(4) with a line through the one point", () -> desk.pack(4), 2);
    }

    private static void promise9Tiles() {
        Desk desk = new Desk();
        region(desk, 0, 0, 4095, 4095, 4);
        for (int i = 0; i < 6; i++) {
            put(desk, i + 1, 1, 4, 0, 128 + 256 * i, 4095, 128 + 256 * i);
        }
        for (int i = 0; i < 4; i++) {
            put(desk, 10 + i, 0, 4, 128, 2176 + 256 * i);
        }
        Check.due("extract(0) of 100 tiles", () -> desk.extract(0), 100);
        put(desk, 20, 0, 4, 128, 3500);
        Check.thrown("extract(0) of 101 tiles", STATE, () -> desk.extract(0));
        Check.due("pack(0) behind it", () -> desk.pack(0), 100);
        Check.due("packed(99, 3) behind it", () -> desk.packed(99, 3), desk.tile(0, 4, 0, 11));
        region(desk, 0, 0, 4095, 3200, 4);
        Check.due("extract(0) of a lesser region", () -> desk.extract(0), 100);
    }

    /** Far more than 5000 bytes, of which only those of the first tile of each sort are stored. */
    private static void promise9Shared() {
        Desk desk = new Desk();
        region(desk, 0, 0, 4095, 4095, 4);
        for (int number = 1; number <= 24; number++) {
            put(desk, number, 1, 4, 0, 250, 4095, 250);
        }
        Check.due("extract(0)", () -> desk.extract(0), 32);
        Check.due("pack(2)", () -> desk.pack(2), 26);
    }

    private static Desk wholeWorld() {
        Desk desk = new Desk();
        put(desk, 1, 2, 0, 0, 0, 4095, 0, 4095, 4095, 0, 4095);
        region(desk, 0, 0, 4095, 4095, 2);
        desk.extract(0);
        return desk;
    }

    private static void promise10() {
        Desk desk = wholeWorld();
        // z, tx, ty and the first with the same bytes: corners, sides and the middle are shared.
        int[][] due = {{0, 0, 0, 0},
            {1, 0, 0, 1}, {1, 1, 0, 2}, {1, 0, 1, 3}, {1, 1, 1, 4},
            {2, 0, 0, 1}, {2, 1, 0, 6}, {2, 0, 1, 7}, {2, 1, 1, 8},
            {2, 2, 0, 6}, {2, 3, 0, 2}, {2, 2, 1, 8}, {2, 3, 1, 12},
            {2, 0, 2, 7}, {2, 1, 2, 8}, {2, 0, 3, 3}, {2, 1, 3, 16},
            {2, 2, 2, 8}, {2, 3, 2, 12}, {2, 2, 3, 16}, {2, 3, 3, 4}};
        for (int k = 0; k < due.length; k++) {
            int at = k;
            int[] v = due[k];
            Check.due("packed(" + k + ", 0)", () -> desk.packed(at, 0), v[0]);
            Check.due("packed(" + k + ", 1)", () -> desk.packed(at, 1), v[1]);
            Check.due("packed(" + k + ", 2)", () -> desk.packed(at, 2), v[2]);
            Check.due("packed(" + k + ", 3)", () -> desk.packed(at, 3), desk.tile(0, v[0], v[1], v[2]));
            Check.due("packed(" + k + ", 4)", () -> desk.packed(at, 4), v[3]);
        }
        int[][] wrong = {{-1, 0}, {21, 0}, {0, -1}, {0, 5}, {100, 0}, {Integer.MIN_VALUE, 0}, {Integer.MAX_VALUE, 4}};
        for (int[] v : wrong) {
            Check.due("packed(" + v[0] + ", " + v[1] + ")", () -> desk.packed(v[0], v[1]), -1);
        }
    }

    /** The very first tile is like the next two. */
    private static void promise10First() {
        Desk desk = new Desk();
        put(desk, 1, 1, 4, 0, 128, 4095, 128);
        region(desk, 256, 0, 1023, 255, 4);
        Check.due("extract(0)", () -> desk.extract(0), 3);
        for (int k = 0; k < 3; k++) {
            int at = k;
            Check.due("packed(" + k + ", 1)", () -> desk.packed(at, 1), k + 1);
            Check.due("packed(" + k + ", 4)", () -> desk.packed(at, 4), 0);
        }
        Check.due("pack(1)", () -> desk.pack(1), 10);
        Check.due("pack(2)", () -> desk.pack(2), 2);
    }

    private static void promise11() {
        Desk desk = new Desk();
        put(desk, 1, 0, 0, 100, 100);
        desk.tile(0, 4, 0, 0);
        Check.due("take(4, 0, 0) without a pack", () -> desk.take(4, 0, 0), 0);
        Check.due("the tile in hand", inHand(desk), "");
        region(desk, 0, 0, 255, 255, 3);
        desk.extract(0);
        put(desk, 1, 0, 0, 0, 0);
        Check.due("take(0, 0, 0)", () -> desk.take(0, 0, 0), 6);
        Check.due("the tile in hand", inHand(desk), "1 0 1 1 12 12");
        Check.due("take(3, 0, 0)", () -> desk.take(3, 0, 0), 6);
        Check.due("the tile in hand", inHand(desk), "1 0 1 1 100 100");
        desk.extract(0);
        Check.due("the tile in hand behind another pack", inHand(desk), "1 0 1 1 100 100");
        int[][] wrong = {{4, 0, 0}, {3, 1, 0}, {3, 0, 1}, {-1, 0, 0}, {5, 0, 0}, {0, -1, 0}, {0, 0, Integer.MAX_VALUE}};
        for (int[] v : wrong) {
            desk.take(0, 0, 0);
            Check.due("take(" + java.util.Arrays.toString(v) + ")", () -> desk.take(v[0], v[1], v[2]), 0);
            Check.due("the tile in hand behind it", inHand(desk), "");
        }
        Desk world = wholeWorld();
        Check.due("take of a SHARED tile", () -> world.take(2, 2, 2), world.tile(0, 2, 1, 1));
        world.take(2, 2, 2);
        Check.due("the tile in hand", inHand(world), "1 2 1 4 144 4 15 0 160 4 159 4 0 0 159 4");
    }

    private static void promise12() {
        Desk desk = wholeWorld();
        int stored = 0;
        for (int k = 0; k < 21; k++) {
            stored += desk.packed(k, 4) == k ? desk.packed(k, 3) : 0;
        }
        Check.due("pack(0)", () -> desk.pack(0), 21);
        Check.due("pack(1)", () -> desk.pack(1), stored);
        Check.due("pack(2)", () -> desk.pack(2), 11);
        Check.due("pack(3)", () -> desk.pack(3), 0);
        Check.due("pack(4)", () -> desk.pack(4), 1);
        Check.due("pack(5)", () -> desk.pack(5), -1);
        Check.due("pack(-1)", () -> desk.pack(-1), -1);
        desk.edition();
        desk.drop(1);
        desk.extract(1);
        desk.edition();
        desk.edition();
        Check.due("pack(3) of an edition that is no more kept", () -> desk.pack(3), 1);
        Check.due("pack(0) of it", () -> desk.pack(0), 21);
        Check.due("pack(4) of it", () -> desk.pack(4), 1);
    }

    /** Edition 1 has points 1 and 2, edition 2 has 2 and 3, and 4 in the tile of 2. */
    private static Desk twoEditions() {
        Desk desk = new Desk();
        put(desk, 1, 0, 4, 3000, 100);
        put(desk, 2, 0, 4, 100, 3000);
        put(desk, 9, 0, 4, 4000, 4000);
        desk.edition();
        desk.drop(1);
        put(desk, 3, 0, 4, 100, 100);
        put(desk, 4, 0, 4, 120, 3020);
        desk.edition();
        region(desk, 0, 0, 4095, 4095, 4);
        return desk;
    }

    private static void promise13() {
        Desk desk = twoEditions();
        Check.due("difference(1, 2)", () -> desk.difference(1, 2), 3);
        Check.due("difference(2, 2)", () -> desk.difference(2, 2), 0);
        Check.due("difference(2, 0)", () -> desk.difference(2, 0), 0);
        Check.due("difference(0, 1)", () -> desk.difference(0, 1), 3);
        Check.due("differs(0, 0)", () -> desk.differs(0, 0), 0);
        int[][] wrong = {{1, 3}, {3, 1}, {-1, 0}, {0, -1}};
        for (int[] v : wrong) {
            Check.thrown("difference(" + v[0] + ", " + v[1] + ")", INDEX, () -> desk.difference(v[0], v[1]));
        }
        Check.due("differs(0, 0) behind these", () -> desk.differs(0, 0), 0);
        Check.due("differs(2, 0) behind these", () -> desk.differs(2, 0), 2);
        region(desk, 0, 0, 2000, 2000, 4);
        Check.due("difference(1, 2) of a lesser region", () -> desk.difference(1, 2), 1);
        region(desk, 0, 0, 4095, 4095, 3);
        Check.due("difference(1, 2) below the least zoom", () -> desk.difference(1, 2), 0);
        desk.edition();
        Check.thrown("difference(1, 2), 1 being no more kept", INDEX, () -> desk.difference(1, 2));
        Desk other = new Desk();
        Check.thrown("difference(0, 0) without a region", STATE, () -> other.difference(0, 0));
        Check.thrown("difference(0, 1) without either", INDEX, () -> other.difference(0, 1));
    }

    private static void promise13Refused() {
        Desk desk = twoEditions();
        for (int i = 0; i < 7; i++) {
            put(desk, 20 + i, 1, 4, 0, 128 + 256 * i, 4095, 128 + 256 * i);
        }
        desk.difference(1, 2);
        desk.extract(1);
        Check.thrown("difference(1, 0), the second being refused", STATE, () -> desk.difference(1, 0));
        Check.thrown("difference(0, 1), the first being refused", STATE, () -> desk.difference(0, 1));
        Check.thrown("extract(0), refused", STATE, () -> desk.extract(0));
        Check.due("differs(2, 0) behind these", () -> desk.differs(2, 0), 2);
        Check.due("apply() of the old difference", desk::apply, 3);
        Check.due("pack(3)", () -> desk.pack(3), 2);
    }

    private static void promise14() {
        Desk desk = twoEditions();
        Check.due("differs(0, 0) without a difference", () -> desk.differs(0, 0), -1);
        desk.difference(1, 2);
        // In ORDER: (0, 0), (11, 0), (0, 11); the greater ty counts for more.
        int[][] due = {{1, 4, 0, 0, 8}, {0, 4, 11, 0, 0}, {2, 4, 0, 11, 16}};
        for (int k = 0; k < due.length; k++) {
            for (int what = 0; what < 5; what++) {
                int at = k;
                int w = what;
                Check.due("differs(" + k + ", " + what + ")", () -> desk.differs(at, w), due[k][what]);
            }
        }
        int[][] wrong = {{-1, 0}, {3, 0}, {0, -1}, {0, 5}, {200, 0}, {Integer.MIN_VALUE, 0}, {Integer.MAX_VALUE, 0}};
        for (int[] v : wrong) {
            Check.due("differs(" + v[0] + ", " + v[1] + ")", () -> desk.differs(v[0], v[1]), -1);
        }
        desk.difference(2, 1);
        int[][] back = {{0, 4, 0, 0, 0}, {1, 4, 11, 0, 8}, {2, 4, 0, 11, 8}};
        for (int k = 0; k < back.length; k++) {
            for (int what = 0; what < 5; what++) {
                int at = k;
                int w = what;
                Check.due("back, differs(" + k + ", " + what + ")", () -> desk.differs(at, w), back[k][what]);
            }
        }
        region(desk, 0, 0, 4095, 4095, 4);
        Check.due("differs(0, 0) behind region", () -> desk.differs(0, 0), -1);
        Check.due("differs(0, 4) behind region", () -> desk.differs(0, 4), -1);
    }

    private static void promise15() {
        Desk desk = twoEditions();
        desk.extract(1);
        desk.difference(1, 0);
        desk.drop(2);
        desk.drop(3);
        Check.due("apply()", desk::apply, 3);
        Check.due("pack(0)", () -> desk.pack(0), 3);
        Check.due("pack(1)", () -> desk.pack(1), 8 + 16 + 8);
        Check.due("pack(3)", () -> desk.pack(3), 0);
        Check.due("pack(4)", () -> desk.pack(4), 4);
        Check.due("lookUp(0, 0): feature 2 as it was then", () -> desk.lookUp(0L, 0), 2);
        Check.due("take(4, 0, 0): feature 3 as it was then", () -> desk.take(4, 0, 0), 8);
        dueSamePack("behind apply()", desk, new int[][] {{4, 0, 0, 8, 0}, {4, 0, 11, 16, 1}, {4, 15, 15, 8, 2}});
        Check.thrown("apply() again", STATE, desk::apply);
        desk.extract(0);
        Check.thrown("apply() to another edition's pack", STATE, desk::apply);
        // Only its tiles matter, not which edition it is of, nor that this is no more kept.
        desk.extract(1);
        desk.edition();
        desk.edition();
        Check.due("apply() with an edition that is no more kept", desk::apply, 3);
        Check.due("differs(0, 0): the difference stays", () -> desk.differs(0, 0), 1);
        Desk same = new Desk();
        put(same, 1, 0, 0, 100, 100);
        same.edition();
        same.edition();
        region(same, 0, 0, 255, 255, 2);
        same.extract(0);
        same.difference(1, 2);
        Check.due("apply() to a pack with the same tiles", same::apply, 3);
        Check.due("pack(3)", () -> same.pack(3), 2);
        put(same, 2, 0, 3, 50, 50);
        same.difference(2, 0);
        Check.due("apply() of a feature that is in no tile", same::apply, 3);
        Check.due("pack(3)", () -> same.pack(3), 0);
    }

    private static void dueSamePack(String when, Desk desk, int[][] due) {
        for (int k = 0; k < due.length; k++) {
            for (int what = 0; what < 5; what++) {
                int at = k;
                int w = what;
                Check.due("packed(" + k + ", " + what + ") " + when, () -> desk.packed(at, w), due[k][what]);
            }
        }
        Check.due("packed(" + due.length + ", 0) " + when, () -> desk.packed(due.length, 0), -1);
    }

    /** From one pack to another that has SHARED tiles, and nothing at its place in common with it. */
    private static void promise15Shared() {
        Desk desk = new Desk();
        put(desk, 1, 0, 3, 4000, 4000);
        desk.edition();
        desk.drop(1);
        put(desk, 2, 0, 4, 20, 300);
        put(desk, 4, 0, 4, 276, 300);
        put(desk, 3, 0, 4, 532, 44);
        desk.edition();
        // Point 2 and point 4 have other numbers; the line 2 is the same in two tiles.
        put(desk, 2, 1, 4, 0, 300, 1023, 300);
        desk.drop(4);
        desk.edition();
        region(desk, 0, 0, 4095, 4095, 4);
        put(desk, 1, 0, 3, 4000, 4000);
        desk.drop(2);
        desk.drop(3);
        Check.due("extract(0)", () -> desk.extract(0), 2);
        Check.due("difference(0, 3)", () -> desk.difference(0, 3), 8);
        Check.due("apply()", desk::apply, 6);
        dueSamePack("of edition 3", desk, new int[][] {
            {4, 0, 1, 9, 0}, {4, 1, 1, 9, 1}, {4, 2, 0, 6, 2}, {4, 2, 1, 9, 1}, {4, 3, 1, 9, 4}, {4, 4, 1, 8, 5}});
        Check.due("pack(1)", () -> desk.pack(1), 9 + 9 + 6 + 9 + 8);
        Check.due("pack(2)", () -> desk.pack(2), 1);
        Check.due("pack(3)", () -> desk.pack(3), 3);
        Check.due("pack(4)", () -> desk.pack(4), 2);
        Check.due("take(4, 2, 1)", () -> desk.take(4, 2, 1), 9);
        Check.due("the tile in hand", inHand(desk), "2 1 1 2 15 88 160 4 0");
        Check.due("take(4, 15, 15)", () -> desk.take(4, 15, 15), 0);
        Check.due("difference(3, 0)", () -> desk.difference(3, 0), 8);
        Check.due("apply() back", desk::apply, 2);
        dueSamePack("of edition 0", desk, new int[][] {{3, 7, 7, 8, 0}, {4, 15, 15, 8, 1}});
        Check.due("pack(2)", () -> desk.pack(2), 0);
    }

    /** A pack of 100 tiles against one of 100 others: all 200 are told. */
    private static void promise14Most() {
        Desk desk = new Desk();
        for (int i = 0; i < 6; i++) {
            put(desk, i + 1, 1, 4, 0, 128 + 512 * i, 4095, 128 + 512 * i);
            put(desk, i + 11, 0, 4, 128 + 512 * i, 3456);
        }
        desk.drop(15);
        desk.drop(16);
        desk.edition();
        for (int number = 1; number < 17; number++) {
            desk.drop(number);
        }
        for (int i = 0; i < 6; i++) {
            put(desk, i + 1, 1, 4, 0, 384 + 512 * i, 4095, 384 + 512 * i);
            put(desk, i + 11, 0, 4, 384 + 512 * i, 3456);
        }
        desk.drop(15);
        desk.drop(16);
        region(desk, 0, 0, 4095, 4095, 4);
        Check.due("difference(1, 0)", () -> desk.difference(1, 0), 200);
        int[] told = new int[3];
        for (int k = 0; k < 200; k++) {
            told[desk.differs(k, 0)]++;
        }
        Check.due("REMOVED", told[0], 100);
        Check.due("ADDED", told[1], 100);
        Check.due("differs(199, 1)", () -> desk.differs(199, 1), 4);
        Check.due("differs(200, 0)", () -> desk.differs(200, 0), -1);
    }

    private static void promise15Refused() {
        Desk desk = twoEditions();
        desk.difference(1, 2);
        Check.thrown("apply() without a pack", STATE, desk::apply);
        desk.extract(1);
        region(desk, 0, 0, 4095, 4095, 4);
        Check.thrown("apply() without a difference", STATE, desk::apply);
        desk.difference(1, 2);
        Check.due("apply() to a pack of a region with the same numbers", desk::apply, 3);
        // A pack of another region, though with the same tiles.
        desk.extract(1);
        int[][] others = {{1, 0, 4095, 4095, 4}, {0, 1, 4095, 4095, 4}, {0, 0, 4094, 4095, 4}, {0, 0, 4095, 4094, 4}};
        for (int[] v : others) {
            region(desk, v[0], v[1], v[2], v[3], v[4]);
            desk.difference(1, 2);
            Check.thrown("apply() for the region " + java.util.Arrays.toString(v), STATE, desk::apply);
        }
        Desk empty = new Desk();
        region(empty, 0, 0, 9, 9, 2);
        empty.extract(0);
        region(empty, 0, 0, 9, 9, 1);
        empty.difference(0, 0);
        Check.thrown("apply() for another zoom, without tiles", STATE, empty::apply);
        empty.extract(0);
        Check.due("apply() without tiles", empty::apply, 0);
        Check.due("pack(3) behind a refused apply()", () -> desk.pack(3), 1);
    }

    private static void named(Desk desk, int number, String name) {
        corners(desk, number, number);
        desk.feature(number, 0, 0, 0, word(name));
    }

    private static void dueNames(Desk desk, String start, int... numbers) {
        for (int k = 0; k < numbers.length; k++) {
            int at = k;
            Check.due("lookUp(" + start + ", " + k + ")", () -> desk.lookUp(word(start), at), numbers[k]);
        }
        Check.thrown("lookUp(" + start + ", " + numbers.length + ")", NO_SUCH,
                () -> desk.lookUp(word(start), numbers.length));
    }

    private static void promise16() {
        Desk desk = new Desk();
        named(desk, 20, "a");
        named(desk, 3, "b");
        named(desk, 4, "ab");
        named(desk, 5, "abcdefgh");
        named(desk, 6, "");
        named(desk, 17, "abcdefg");
        named(desk, 8, "ab");
        named(desk, 9, "zzzzzzzz");
        named(desk, 10, "abd");
        named(desk, 1000, "aa");
        Check.thrown("lookUp(0, 0) without a pack", NO_SUCH, () -> desk.lookUp(0L, 0));
        region(desk, 0, 0, 999, 999, 0);
        desk.extract(0);
        dueNames(desk, "", 6, 20, 4, 8, 17, 5, 10, 3, 9);
        dueNames(desk, "a", 20, 4, 8, 17, 5, 10);
        dueNames(desk, "ab", 4, 8, 17, 5, 10);
        dueNames(desk, "abc", 17, 5);
        dueNames(desk, "abcdefgh", 5);
        dueNames(desk, "zzzzzzzz", 9);
        dueNames(desk, "b", 3);
        dueNames(desk, "ba");
        dueNames(desk, "aa");
        dueNames(desk, "c");
        Check.thrown("lookUp with k -1", NO_SUCH, () -> desk.lookUp(0L, -1));
        Check.thrown("lookUp with the least k", NO_SUCH, () -> desk.lookUp(0L, Integer.MIN_VALUE));
        Check.thrown("lookUp with the greatest k", NO_SUCH, () -> desk.lookUp(0L, Integer.MAX_VALUE));
        for (long wrong : new long[] {'A', 0x6100L, 0x6161000000000000L, 1L, -1L, Long.MIN_VALUE}) {
            Check.thrown("lookUp(" + wrong + ", 0)", NO_SUCH, () -> desk.lookUp(wrong, 0));
        }
        desk.drop(20);
        dueNames(desk, "a", 20, 4, 8, 17, 5, 10);
        region(desk, 0, 0, 1000, 1000, 0);
        desk.extract(0);
        dueNames(desk, "a", 1000, 4, 8, 17, 5, 10);
    }

    private static void point(Desk desk, int number, int sort, int x, int y) {
        corners(desk, x, y);
        desk.feature(number, 0, sort, 0, 0L);
    }

    private static void dueNear(Desk desk, int x, int y, int sort, int... numbers) {
        String call = "near(" + x + ", " + y + ", " + sort + ", ";
        for (int k = 0; k < numbers.length; k++) {
            int at = k;
            Check.due(call + k + ")", () -> desk.near(x, y, sort, at), numbers[k]);
        }
        Check.thrown(call + numbers.length + ")", NO_SUCH, () -> desk.near(x, y, sort, numbers.length));
        Check.thrown(call + "-1)", NO_SUCH, () -> desk.near(x, y, sort, -1));
    }

    private static void promise17() {
        Desk desk = new Desk();
        point(desk, 1, 4, 100, 100);
        point(desk, 2, 4, 103, 104);
        point(desk, 3, 4, 105, 100);
        point(desk, 4, 4, 2000, 2000);
        point(desk, 5, 5, 100, 100);
        point(desk, 6, 4, 3000, 3000);
        corners(desk, 100, 100, 101, 100);
        desk.feature(7, 1, 4, 0, 0L);
        Check.thrown("near(100, 100, 4, 0) without a pack", NO_SUCH, () -> desk.near(100, 100, 4, 0));
        region(desk, 0, 0, 2500, 2500, 0);
        desk.extract(0);
        dueNear(desk, 100, 100, 4, 1, 2, 3, 4);
        dueNear(desk, 101, 103, 4, 2, 1, 3, 4);
        dueNear(desk, 105, 99, 4, 3, 1, 2, 4);
        dueNear(desk, 0, 0, 5, 5);
        dueNear(desk, 0, 0, 0);
        dueNear(desk, 0, 0, 10);
        dueNear(desk, 0, 0, -1);
        // From far outside of the world, where a squared distance has more than 63 bits.
        int least = Integer.MIN_VALUE;
        int most = Integer.MAX_VALUE;
        dueNear(desk, least, least, 4, 1, 3, 2, 4);
        dueNear(desk, most, most, 4, 4, 2, 3, 1);
        dueNear(desk, most, least, 4, 3, 1, 4, 2);
        desk.drop(1);
        dueNear(desk, 100, 100, 4, 1, 2, 3, 4);
        desk.extract(0);
        dueNear(desk, 100, 100, 4, 2, 3, 4);
    }
}
