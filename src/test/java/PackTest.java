/** Regions and packs (promises 8 to 12), sentence by sentence. */
public final class PackTest {
    private static final String ALL_OVER = "put 1 2 0 at 0 0 4095 0 4095 4095 0 4095\n";

    private PackTest() {}

    public static void main(String[] args) {
        aRegion();
        noRegion();
        inForceFromNowOn();
        noDifferenceThen();
        tilesOfARegion();
        tilesByTheGreatestZoom();
        tilesThatAreNotEmpty();
        inOrder();
        storedAndShared();
        hundredTiles();
        fiveThousandBytes();
        fullInEveryWay();
        sharedBytesAreNotStored();
        leastZoomOfFeatures();
        pointsThatMeet();
        linesThatMeet();
        areasThatMeet();
        meetExactly();
        packOfAnEdition();
        packBecomes();
        noSuchEdition();
        noRegionOrRefused();
        packed();
        packedNone();
        take();
        takeNone();
        pack();
        packNone();
        Check.end();
    }

    private static void aRegion() {
        Check.sentence("A REGION has four numbers of the world, x0 <= x1, y0 <= y1, and a greatest zoom");
        String[] regions = {"0, 0, 0, 0, 0", "0, 0, 4095, 4095, 0", "4095, 4095, 4095, 4095, 4", "0, 4095, 4095, 4095, 1",
            "4095, 0, 4095, 4095, 2", "7, 9, 7, 9, 3", "7, 9, 8, 10, 4"};
        for (String region : regions) {
            Script.run("region(" + region + "): done\nextract(0): 0\npack(0): 0");
        }
    }

    private static void noRegion() {
        Check.sentence("IllegalArgumentException: it is none");
        String[] wrong = {"-1, 0, 5, 5, 0", "0, -1, 5, 5, 0", "-1, 0, -1, 5, 0", "0, -1, 5, -1, 0", "0, 0, 4096, 5, 0",
            "0, 0, 5, 4096, 0", "4096, 0, 4096, 5, 0", "0, 4096, 5, 4096, 0", "6, 0, 5, 5, 0", "0, 6, 5, 5, 0",
            "4095, 0, 0, 5, 0", "0, 4095, 5, 0, 0", "0, 0, 5, 5, -1", "0, 0, 5, 5, 5", "MIN, 0, 5, 5, 0",
            "0, MIN, 5, 5, 0", "0, 0, MAX, 5, 0", "0, 0, 5, MAX, 0", "MAX, 0, 5, 5, 0", "0, MAX, 5, 5, 0",
            "0, 0, MIN, 5, 0", "0, 0, 5, MIN, 0", "0, 0, 5, 5, MIN", "0, 0, 5, 5, MAX", "0, 0, 5, 5, 256",
            "65536, 0, 65536, 5, 0", "0, 65536, 5, 65536, 0", "MIN, MIN, MAX, MAX, 0", "MIN, MIN, MIN, MIN, MIN",
            "MAX, MAX, MAX, MAX, MAX"};
        for (String region : wrong) {
            Script.run("region(" + region + "): IllegalArgument\nextract(0): IllegalState")
                    .then("region(0, 0, 9, 9, 0): done\nregion(" + region + "): IllegalArgument\nextract(0): 0");
        }
    }

    private static void inForceFromNowOn() {
        Check.sentence("The region in force from now on");
        Script.run("""
                put 1 0 0 at 0 0
                put 2 0 0 at 4000 4000
                region(0, 0, 9, 9, 4): done
                extract(0): 5
                pack(4): 1
                region(3999, 3999, 4001, 4001, 2): done
                pack(0): 5
                extract(0): 3
                pack(4): 1
                lookUp(0, 0): 2
                region(100, 100, 200, 200, 4): done
                extract(0): 5
                pack(4): 0
                """);
    }

    private static void noDifferenceThen() {
        Check.sentence("there is no difference then");
        String before = """
                put 1 0 0 at 0 0
                edition(): 1
                drop(1): true
                region(0, 0, 9, 9, 4): done
                extract(1): 5
                difference(1, 0): 5
                differs(0, 0): 0
                """;
        Script.run(before + "region(0, 0, 9, 9, 4): done\ndiffers(0, 0): NONE\napply(): IllegalState");
        Script.run(before + "region(0, 0, 9, 8, 4): done\ndiffers(0, 0): NONE\napply(): IllegalState");
        Script.run(before + "region(0, 0, 9, 9, 5): IllegalArgument\ndiffers(0, 0): 0\napply(): 0");
    }

    private static void tilesOfARegion() {
        Check.sentence("Its tiles: of whose steps at least one is v >> (4 - z) for an x of x0 .. x1, likewise for y");
        for (int z = 1; z <= 4; z++) {
            int side = 4096 >> z;
            int[][] due = {
                {0, 0, side - 1, side - 1, 0, 1, 0, 1}, {0, 0, side, side - 1, 0, 2, 0, 1},
                {0, 0, side - 1, side, 0, 1, 0, 2}, {side - 1, side, side, side, 0, 2, 1, 1},
                {side, side - 1, side, side, 1, 1, 0, 2}, {side, side, side, side, 1, 1, 1, 1},
                {side - 1, side - 1, side - 1, side - 1, 0, 1, 0, 1}};
            for (int[] v : due) {
                int tiles = v[5] * v[7];
                Script.run("put 1 2 " + z + " at 0 0 4095 0 4095 4095 0 4095")
                        .then("region(" + v[0] + ", " + v[1] + ", " + v[2] + ", " + v[3] + ", " + z + "): done")
                        .then("extract(0): " + tiles + "\npacked(0, 0): " + z + "\npacked(0, 1): " + v[4]
                                + "\npacked(0, 2): " + v[6] + "\npacked(" + (tiles - 1) + ", 1): " + (v[4] + v[5] - 1)
                                + "\npacked(" + (tiles - 1) + ", 2): " + (v[6] + v[7] - 1));
            }
        }
        Script.run(ALL_OVER + """
                region(4095, 4095, 4095, 4095, 4): done
                extract(0): 5
                packed(4, 1): 15
                packed(4, 2): 15
                region(0, 0, 4095, 0, 4): done
                extract(0): 31
                region(0, 4095, 4095, 4095, 4): done
                extract(0): 31
                packed(30, 1): 15
                packed(30, 2): 15
                """);
    }

    private static void tilesByTheGreatestZoom() {
        Check.sentence("Its tiles: those with z not above that");
        int[] tiles = {1, 5, 21, 85};
        for (int zoom = 0; zoom <= 3; zoom++) {
            Script.run(ALL_OVER + "region(0, 0, 4095, 4095, " + zoom + "): done\nextract(0): " + tiles[zoom]
                    + "\npacked(0, 0): 0\npacked(" + (tiles[zoom] - 1) + ", 0): " + zoom);
        }
    }

    private static void tilesThatAreNotEmpty() {
        Check.sentence("A PACK of an edition and a region has all of these tiles that are not empty");
        Script.run("""
                region(0, 0, 4095, 4095, 4): done
                extract(0): 0
                put 1 0 4 at 600 600
                extract(0): 1
                packed(0, 1): 2
                packed(0, 2): 2
                put 1 0 3 at 600 600
                extract(0): 2
                put 2 1 0 at 0 0 15 0
                extract(0): 6
                region(0, 0, 511, 511, 4): done
                extract(0): 4
                """);
        // What is in the margin alone makes a tile, of which the region has steps.
        Script.run("""
                put 1 0 4 at 264 100
                region(255, 100, 255, 100, 4): done
                extract(0): 1
                pack(4): 0
                put 1 0 4 at 265 100
                extract(0): 0
                put 1 0 4 at 248 100
                region(256, 100, 256, 100, 4): done
                extract(0): 1
                put 1 0 4 at 247 100
                extract(0): 0
                """);
    }

    private static void inOrder() {
        Check.sentence("in ORDER: by z, then by the number whose bits are, from the highest on, the highest of ty, of tx,"
                + " the next of ty, ..");
        Script script = Script.run(ALL_OVER + "region(0, 0, 4095, 4095, 3): done\nextract(0): 85");
        int k = 0;
        for (int z = 0; z <= 3; z++) {
            for (int code = 0; code < 1 << (2 * z); code++) {
                // Digits of base 4, each of which has a bit of ty and one of tx.
                int tx = 0;
                int ty = 0;
                for (int digit = z - 1; digit >= 0; digit--) {
                    int both = code / (int) Math.pow(4, digit) % 4;
                    ty = 2 * ty + both / 2;
                    tx = 2 * tx + both % 2;
                }
                script.then("packed(" + k + ", 0): " + z + "\npacked(" + k + ", 1): " + tx + "\npacked(" + k + ", 2): " + ty);
                k++;
            }
        }
        // The highest bits of zoom 4: (7, 7) ahead of (8, 0), (15, 7) ahead of (0, 8).
        int[][] tiles = {{7, 7}, {8, 0}, {15, 7}, {0, 8}, {7, 15}, {8, 8}, {15, 15}};
        Script high = new Script();
        for (int i = tiles.length - 1; i >= 0; i--) {
            high.then("put " + (9 - i) + " 0 4 at " + (256 * tiles[i][0] + 100) + " " + (256 * tiles[i][1] + 100));
        }
        high.then("region(0, 0, 4095, 4095, 4): done\nextract(0): 7");
        for (int i = 0; i < tiles.length; i++) {
            high.then("packed(" + i + ", 1): " + tiles[i][0] + "\npacked(" + i + ", 2): " + tiles[i][1]);
        }
    }

    private static void storedAndShared() {
        Check.sentence("Of tiles of the same bytes the first one is STORED, the others are SHARED");
        Script.run("""
                put 1 1 4 at 0 100 4095 100
                region(0, 0, 4095, 255, 4): done
                extract(0): 16
                pack(1): 30
                pack(2): 13
                packed(0, 4): 0
                packed(1, 4): 1
                packed(2, 4): 1
                packed(14, 4): 1
                packed(15, 4): 15
                """);
        // The same at two zooms; as many bytes, but others; all but the last byte alike.
        Script.run("""
                put 1 0 0 at 0 0
                region(0, 0, 0, 0, 4): done
                extract(0): 5
                pack(1): 6
                pack(2): 4
                packed(4, 4): 0
                put 1 0 0 at 0 1
                extract(0): 5
                pack(1): 12
                pack(2): 3
                packed(3, 4): 0
                packed(4, 4): 4
                put 1 0 0 at 2 0
                extract(0): 5
                pack(1): 18
                pack(2): 2
                packed(3, 4): 3
                packed(4, 4): 4
                """);
        // The bytes of one are the first bytes of the other.
        Script.run("""
                put 1 0 3 at 0 0
                put 2 0 4 at 0 0
                region(0, 0, 0, 0, 4): done
                extract(0): 2
                pack(1): 18
                pack(2): 0
                packed(1, 4): 1
                """);
    }

    /** Six rows of tiles, and four tiles more. */
    private static String hundred() {
        StringBuilder lines = new StringBuilder("region(0, 0, 4095, 4095, 4): done\n");
        for (int i = 0; i < 6; i++) {
            lines.append("put I 1 4 at 0 Y 4095 Y\n".replace("I", "" + (i + 1)).replace("Y", "" + (128 + 256 * i)));
        }
        for (int i = 0; i < 4; i++) {
            lines.append("put ").append(10 + i).append(" 0 4 at 128 ").append(2176 + 256 * i).append("\n");
        }
        return lines.toString();
    }

    private static void hundredTiles() {
        Check.sentence("A pack that would have more than 100 tiles is refused");
        Script.run(hundred() + """
                extract(0): 100
                pack(0): 100
                packed(99, 2): 11
                packed(100, 0): NONE
                put 20 0 4 at 128 3500
                extract(0): IllegalState
                pack(0): 100
                packed(99, 2): 11
                drop(20): true
                extract(0): 100
                """);
        Script.run(ALL_OVER + "region(0, 0, 4095, 4095, 4): done\nextract(0): IllegalState\npack(0): NONE")
                .then("region(0, 0, 4095, 4095, 3): done\nextract(0): 85");
        // 101 by a lower zoom, which comes first in ORDER.
        Script.run(hundred() + "put 20 0 3 at 128 2688\nextract(0): IllegalState\ndrop(20): true\nextract(0): 100");
    }

    /** Features of 5000 bytes in 100 tiles; with a wider last point of 5001, with a lesser one of 4999. */
    private static String full(String lastPoint) {
        StringBuilder lines = new StringBuilder("region(0, 0, 4095, 4095, 4): done\n");
        // Aslant along the border of two rows of tiles, so that each tile has other bytes.
        for (int n = 1; n <= 15; n++) {
            lines.append("put ").append(n).append(" 1 4 at 0 ").append(248 + n % 5).append(" 4095 ").append(264 - n % 4);
            lines.append("\n");
        }
        lines.append("put 16 1 4 at 0 250 3800 260\n");
        for (int i = 0; i < 4; i++) {
            lines.append("put ").append(i == 0 ? 30 : 130 + i);
            lines.append(" 1 4 at 0 Y 4095 Y\n".replace("Y", "" + (640 + 256 * i)));
        }
        return lines + "put 40 0 4 at 100 2148\nput 41 0 4 at 562 2098\nput 42 0 4 at 1074 2098\nput 43 0 4 at "
                + lastPoint + "\n";
    }

    private static void fiveThousandBytes() {
        Check.sentence("A pack that would have more than 5000 bytes STORED is refused");
        Script.run(full("1586 2098") + "extract(0): 100\npack(1): 5000");
        Script.run(full("1636 2098") + "extract(0): IllegalState\npack(1): NONE");
        // The first tile's bytes count as the last one's.
        Script.run(full("1586 2098") + "put 40 0 4 at 50 2148\nextract(0): 100\npack(1): 4999")
                .then("put 43 0 4 at 1636 2098\nextract(0): 100\npack(1): 5000")
                .then("put 43 0 4 at 1636 2148\nextract(0): IllegalState\npack(1): 5000\npack(0): 100");
    }

    private static void fullInEveryWay() {
        Check.sentence("a pack at its most: 24 features, 100 tiles, 5000 bytes STORED");
        Script script = Script.run(full("1586 2098") + """
                extract(0): 100
                pack(0): 100
                pack(1): 5000
                pack(2): 52
                pack(3): 0
                pack(4): 24
                packed(99, 2): 8
                packed(99, 3): 6
                packed(99, 4): 99
                take(4, 6, 8) has 43 0 1 1 100 100
                take(4, 15, 15): 0
                octet(0): NONE
                packed(100, 0): NONE
                difference(0, 0): 0
                apply(): 100
                """);
        int stored = 0;
        for (int k = 0; k < 100; k++) {
            boolean first = script.answer("packed(" + k + ", 4)").equals(Integer.toString(k));
            stored += first ? Integer.parseInt(script.answer("packed(" + k + ", 3)")) : 0;
        }
        Check.due("the bytes of the tiles that are the first with theirs", stored, 5000);
        script.then("drop(1): true\ndifference(0, 0): 0\napply(): IllegalState\npack(1): 5000");
    }

    private static void sharedBytesAreNotStored() {
        Check.sentence("more than 5000 bytes, but not STORED, are not refused");
        StringBuilder lines = new StringBuilder("region(0, 0, 4095, 4095, 4): done\n");
        for (int n = 1; n <= 24; n++) {
            lines.append("put ").append(n).append(" 1 4 at 0 250 4095 250\n");
        }
        // 32 tiles of 216 or 240 bytes; the first, the last and one of those between are STORED of each row.
        Script.run(lines + "extract(0): 32\npack(2): 26\npacked(1, 3): 240\npacked(31, 3): 216");
    }

    private static void dueMeets(String region, boolean meets, int kind, String corners) {
        Script.run("put 1 " + kind + " 0 at " + corners + "\nregion(" + region + "): done\nextract(0)")
                .then("pack(4): " + (meets ? 1 : 0) + "\nlookUp(0, 0): " + (meets ? "1" : "NoSuchElement"));
    }

    private static void dueMeetsBothWays(String region, boolean meets, String line) {
        String[] v = line.split(" ");
        dueMeets(region, meets, 1, line);
        dueMeets(region, meets, 1, v[2] + " " + v[3] + " " + v[0] + " " + v[1]);
    }

    private static void leastZoomOfFeatures() {
        Check.sentence("It also has the edition's features with a least zoom not above the region's");
        for (int least = 0; least <= 4; least++) {
            for (int zoom = 0; zoom <= 4; zoom++) {
                Script.run("put 1 0 " + least + " at 5 5\nregion(0, 0, 9, 9, " + zoom + "): done")
                        .then("extract(0): " + Math.max(0, zoom - least + 1))
                        .then("pack(4): " + (least <= zoom ? 1 : 0));
            }
        }
        // Also one that is in none of the tiles: a line that is too short for its zooms.
        Script.run("put 1 1 0 at 0 0 1 0\nregion(0, 0, 9, 9, 0): done\nextract(0): 0\npack(4): 1\nlookUp(0, 0): 1");
    }

    private static void pointsThatMeet() {
        Check.sentence("that MEET it: one point at least that is in them is within x0 .. x1, y0 .. y1");
        String region = "100, 200, 300, 250, 0";
        for (String at : new String[] {"100 200", "300 200", "100 250", "300 250", "200 225"}) {
            dueMeets(region, true, 0, at);
        }
        for (String at : new String[] {"99 200", "301 200", "100 199", "100 251", "99 250", "301 250", "300 199", "300 251"}) {
            dueMeets(region, false, 0, at);
        }
        dueMeets("7, 7, 7, 7, 0", true, 0, "7 7");
        dueMeets("7, 7, 7, 7, 0", false, 0, "8 7");
        dueMeets("7, 7, 7, 7, 0", false, 0, "7 6");
        dueMeets("0, 0, 4095, 4095, 0", true, 0, "4095 4095");
        dueMeets("0, 0, 4095, 4095, 0", true, 0, "0 0");
    }

    private static void linesThatMeet() {
        Check.sentence("one point at least that is in a line");
        String region = "100, 200, 300, 250, 0";
        // All within; both ends outside; touching each side and each corner, and one step beside.
        String[][] meeting = {{"150 210 160 220", null}, {"0 225 4095 225", null}, {"200 0 200 4095", null},
            {"0 200 4095 200", "0 199 4095 199"}, {"0 250 4095 250", "0 251 4095 251"},
            {"100 0 100 4095", "99 0 99 4095"}, {"300 0 300 4095", "301 0 301 4095"},
            {"0 225 100 225", "0 225 99 225"}, {"300 225 999 225", "301 225 999 225"},
            {"200 0 200 200", "200 0 200 199"}, {"200 250 200 999", "200 251 200 999"},
            {"90 210 110 190", "90 209 110 189"}, {"290 190 310 210", "291 190 311 210"},
            {"90 240 110 260", "89 240 109 260"}, {"310 240 290 260", "310 241 290 261"}};
        for (String[] v : meeting) {
            dueMeetsBothWays(region, true, v[0]);
            if (v[1] != null) {
                dueMeetsBothWays(region, false, v[1]);
            }
        }
        // A line has no edge from its last corner to the first, and nothing within.
        dueMeets(region, false, 1, "90 100 90 300 310 300 310 100");
        dueMeets(region, false, 1, "90 225 90 300 310 300 310 225");
        dueMeets(region, true, 2, "90 225 90 300 310 300 310 225");
        // The last of eleven edges alone.
        dueMeets(region, true, 1, "0 0 1 9 2 0 3 9 4 0 5 9 6 0 7 9 8 0 9 9 10 0 200 200");
        dueMeets(region, false, 1, "0 0 1 9 2 0 3 9 4 0 5 9 6 0 7 9 8 0 9 9 10 0 200 199");
    }

    private static void areasThatMeet() {
        Check.sentence("(of an area also within it)");
        String region = "100, 200, 300, 250, 0";
        dueMeets(region, true, 2, "90 100 90 300 310 300 310 100");
        dueMeets(region, true, 2, "310 100 310 300 90 300 90 100");
        dueMeets(region, true, 2, "150 210 160 210 155 220");
        dueMeets(region, true, 2, "100 200 300 200 300 250 100 250");
        dueMeets(region, true, 2, "0 0 100 0 100 200 0 200");
        dueMeets(region, false, 2, "0 0 99 0 99 200 0 200");
        dueMeets(region, true, 2, "300 250 400 250 400 400 300 400");
        dueMeets(region, false, 2, "301 250 400 250 400 400 301 400");
        // Round it, but open: the region is in the bay, not within.
        dueMeets(region, false, 2, "90 100 90 300 310 300 310 100 320 100 320 310 80 310 80 100");
        // One number of the world in the midst of an area.
        dueMeets("50, 50, 50, 50, 0", true, 2, "0 0 100 0 100 100 0 100");
        dueMeets("50, 50, 50, 50, 0", false, 2, "0 0 100 0 100 49 0 49");
        dueMeets("0, 0, 4095, 4095, 4", true, 2, "4095 4095 4094 4095 4095 4094");
    }

    private static void meetExactly() {
        Check.sentence("is within x0 .. x1, y0 .. y1, exactly");
        // Through the corner (100, 200), and past it by less than a step.
        String region = "100, 200, 300, 250, 0";
        dueMeets(region, true, 1, "0 1000 125 0");
        dueMeets(region, false, 1, "0 1000 124 7");
        dueMeets(region, false, 1, "0 999 125 0");
        dueMeets(region, true, 1, "0 1001 125 0");
        // Past each corner, and over it, by the least that whole numbers can.
        int[][] corners = {{100, 200, 1, 1}, {300, 200, -1, 1}, {100, 250, 1, -1}, {300, 250, -1, -1}};
        for (int[] c : corners) {
            String from = (c[0] - c[2]) + " " + (c[1] + c[3]) + " ";
            dueMeetsBothWays(region, false, from + (c[0] + c[2]) + " " + (c[1] - 2 * c[3]));
            dueMeetsBothWays(region, true, from + (c[0] + 2 * c[2]) + " " + (c[1] - c[3]));
        }
        // A number that is within an area, or not, by the least.
        dueMeets("1, 1, 1, 1, 0", true, 2, "0 0 3 2 0 9");
        dueMeets("1, 1, 1, 1, 0", true, 2, "0 9 3 2 0 0");
        dueMeets("1, 1, 1, 1, 0", false, 2, "0 0 3 2 9 0");
        dueMeets("1, 1, 1, 1, 0", false, 2, "9 0 3 2 0 0");
        // Through one number, and past it by a hair.
        dueMeets("2047, 2047, 2047, 2047, 0", true, 1, "0 0 4094 4094");
        dueMeets("2047, 2047, 2047, 2047, 0", false, 1, "0 0 4095 4094");
        dueMeets("2047, 2047, 2047, 2047, 0", false, 2, "0 0 4095 4094 4095 0");
        dueMeets("2047, 2047, 2047, 2047, 0", true, 2, "0 0 4095 4094 0 4095");
        // A tip that ends between two whole numbers' lines, but within.
        dueMeets("10, 10, 20, 20, 0", true, 1, "9 12 11 9");
        dueMeets("10, 10, 20, 20, 0", false, 1, "8 11 11 9");
    }

    private static void packOfAnEdition() {
        Check.sentence("The pack in hand becomes that of an edition (0, or KEPT): how many tiles it has");
        Script.run("""
                region(0, 0, 9, 9, 4): done
                put 1 0 0 at 0 0
                edition(): 1
                put 1 0 2 at 0 0
                edition(): 2
                put 1 0 4 at 0 0
                extract(0): 1
                pack(3): 0
                extract(1): 5
                pack(3): 1
                extract(2): 3
                pack(3): 2
                edition(): 3
                extract(3): 1
                pack(3): 3
                extract(2): 3
                extract(1): IndexOutOfBounds
                pack(3): 2
                """);
    }

    private static void packBecomes() {
        Check.sentence("The pack in hand stays as it is, whatever becomes of its edition");
        Script.run("""
                region(0, 0, 9, 9, 4): done
                corners 4 4
                feature(1, 0, 3, 0, 'a'): 1
                extract(0): 5
                drop(1): true
                edition(): 1
                edition(): 2
                edition(): 3
                pack(0): 5
                pack(4): 1
                packed(4, 3): 6
                take(4, 0, 0) has 1 12 1 1 8 8
                lookUp('a', 0): 1
                near(0, 0, 3, 0): 1
                extract(0): 0
                pack(0): 0
                pack(1): 0
                pack(2): 0
                pack(3): 0
                pack(4): 0
                packed(0, 0): NONE
                take(4, 0, 0) has nothing
                """);
    }

    private static void noSuchEdition() {
        Check.sentence("IndexOutOfBoundsException: no such edition");
        Script script = Script.run("region(0, 0, 9, 9, 4): done\nedition(): 1\nedition(): 2\nedition(): 3\nextract(2): 0");
        for (String edition : new String[] {"-1", "-2", "1", "4", "5", "256", "65536", "MIN", "MAX"}) {
            script.then("extract(" + edition + "): IndexOutOfBounds\npack(3): 2");
        }
    }

    private static void noRegionOrRefused() {
        Check.sentence("IllegalStateException: there is no region, or it is refused");
        Script.run("extract(0): IllegalState\nedition(): 1\nextract(1): IllegalState\nextract(0): IllegalState")
                .then("region(5, 0, 4, 0, 0): IllegalArgument\nextract(0): IllegalState\nregion(4, 0, 4, 0, 0): done")
                .then("extract(0): 0\nextract(1): 0");
        // The refused pack of one edition does not refuse another's.
        Script.run(ALL_OVER + "edition(): 1\ndrop(1): true\nregion(0, 0, 4095, 4095, 4): done")
                .then("extract(1): IllegalState\nextract(0): 0\nextract(1): IllegalState\npack(3): 0\npack(0): 0");
    }

    private static void packed() {
        Check.sentence("Tile k of the pack in hand, in ORDER, what 0: z, 1: tx, 2: ty, 3: how many bytes, 4: the first tile"
                + " with these bytes");
        // The point is also in the margin of tile (4, 15, 1), where its y takes one byte less.
        Script.run("""
                put 1 0 3 at 4000 250
                region(0, 0, 4095, 4095, 4): done
                extract(0): 3
                packed(0, 0): 3
                packed(0, 1): 7
                packed(0, 2): 0
                packed(0, 3): 8
                packed(0, 4): 0
                packed(1, 0): 4
                packed(1, 1): 15
                packed(1, 2): 0
                packed(1, 3): 8
                packed(1, 4): 1
                packed(2, 0): 4
                packed(2, 1): 15
                packed(2, 2): 1
                packed(2, 3): 7
                packed(2, 4): 2
                """);
    }

    private static void packedNone() {
        Check.sentence("packed: NONE if there is none such");
        Script script = Script.run("packed(0, 0): NONE\nput 1 0 0 at 0 0\nregion(0, 0, 9, 9, 1): done\npacked(0, 0): NONE")
                .then("extract(0): 2");
        for (String k : new String[] {"-1", "2", "3", "99", "100", "101", "256", "65536", "MIN", "MAX"}) {
            for (int what = -1; what <= 5; what++) {
                script.then("packed(" + k + ", " + what + "): NONE");
            }
        }
        for (String what : new String[] {"-1", "5", "256", "260", "65536", "MIN", "MAX"}) {
            script.then("packed(0, " + what + "): NONE\npacked(1, " + what + "): NONE");
        }
        script.then("packed(1, 0): 1\npacked(0, 4): 0\npacked(1, 4): 0");
    }

    private static void take() {
        Check.sentence("The tile of the pack in hand is in hand from now on: how many bytes it has");
        Script.run("""
                put 1 1 4 at 0 100 4095 100
                region(0, 0, 4095, 255, 4): done
                extract(0): 16
                drop(1): true
                take(4, 0, 0) has 1 1 1 2 0 200 1 144 4 0
                take(4, 15, 0) has 1 1 1 2 15 200 1 142 4 0
                take(4, 9, 0) has 1 1 1 2 15 200 1 160 4 0
                extract(0): 0
                octet(8): 4
                octet(9): 0
                octet(10): NONE
                """);
    }

    private static void takeNone() {
        Check.sentence("0 if the pack has none such (or there is no pack): none is in hand then");
        String inHand = "put 1 0 0 at 0 0\ntile(0, 0, 0, 0): 6\n";
        Script.run(inHand + "take(0, 0, 0): 0\noctet(0): NONE");
        String[] none = {"2, 0, 0", "1, 1, 0", "1, 0, 1", "1, 1, 1", "0, 1, 0", "0, 0, 1", "-1, 0, 0", "5, 0, 0",
            "0, -1, 0", "0, 0, -1", "1, 2, 0", "1, 0, 2", "1, 256, 0", "256, 0, 0", "MIN, 0, 0", "MAX, 0, 0",
            "0, MIN, 0", "0, MAX, 0", "0, 0, MIN", "0, 0, MAX", "MIN, MIN, MIN", "MAX, MAX, MAX"};
        for (String tile : none) {
            Script.run(inHand + "region(0, 0, 9, 9, 1): done\nextract(0): 2\ntile(0, 0, 0, 0): 6")
                    .then("take(" + tile + "): 0\noctet(0): NONE\ntake(1, 0, 0) has 1 0 1 1 0 0")
                    .then("take(" + tile + "): 0\noctet(0): NONE");
        }
        // A tile that a pack before had.
        Script.run(inHand + "region(0, 0, 9, 9, 4): done\nextract(0): 5\nextract(0): 5")
                .then("region(0, 0, 9, 9, 3): done\nextract(0): 4\ntake(4, 0, 0): 0\nextract(0): 4")
                .then("take(4, 0, 0): 0\ntake(3, 0, 0): 6\npacked(4, 0): NONE");
        // A tile that the edition has, but not the region.
        Script.run(inHand + "region(4000, 4000, 4001, 4001, 4): done\nextract(0): 1\ntake(4, 0, 0): 0\noctet(0): NONE")
                .then("take(0, 0, 0) has 1 0 1 1 0 0");
    }

    private static void pack() {
        Check.sentence("Of the pack in hand, what 0: how many tiles, 1: bytes STORED, 2: tiles SHARED, 3: its edition,"
                + " 4: how many features");
        Script.run("""
                put 1 1 4 at 0 100 4095 100
                put 2 0 4 at 300 120
                edition(): 1
                region(0, 0, 4095, 255, 4): done
                extract(1): 16
                pack(0): 16
                pack(1): 47
                pack(2): 12
                pack(3): 1
                pack(4): 2
                """);
    }

    private static void packNone() {
        Check.sentence("pack: NONE without one, or for another what");
        String[] others = {"-1", "5", "256", "260", "65536", "MIN", "MAX"};
        Script without = new Script();
        Script with = Script.run("region(0, 0, 9, 9, 4): done\nextract(0): 0");
        for (String what : others) {
            without.then("pack(" + what + "): NONE");
            with.then("pack(" + what + "): NONE");
        }
        for (int what = 0; what <= 4; what++) {
            without.then("pack(" + what + "): NONE");
            with.then("pack(" + what + "): 0");
        }
        without.then("region(0, 0, 9, 9, 4): done\npack(0): NONE\ndifference(0, 0): 0\npack(0): NONE");
    }
}
