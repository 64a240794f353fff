/** What a TILE has, sentence by sentence: steps, SIMPLER, CUT and WRITTEN. */
public final class TileTest {
    private static final int POINT = 0;
    private static final int LINE = 1;
    private static final int AREA = 2;

    private TileTest() {}

    public static void main(String[] args) {
        byNumbers();
        ends();
        firstCorner();
        farEnough();
        farthest();
        fromThePoint();
        ofTwoAlike();
        bothSides();
        noneBetween();
        cornersInOnePlace();
        tooFewAtAZoom();
        pointsOutside();
        pointsOutsideAtEachZoom();
        linesInside();
        linesOnTheBorder();
        linesInPieces();
        pieceWithOneCorner();
        areaStaysOneRing();
        areaFromItsFirstCorner();
        areaOnTheBorder();
        nearestWholeNumber();
        oneAfterTheOther();
        behindAllFour();
        ifAnythingIsLeft();
        numberLessThatBefore();
        kindAndClass();
        howManyPieces();
        fullTile();
        howManyCorners();
        differences();
        toTheCornerBefore();
        counts();
        noSuchTile();
        octets();
        Check.end();
    }

    /** A tile of an object that has feature 1 alone. */
    private static void alone(int kind, String corners, int z, int tx, int ty, String bytes) {
        Script.run("put 1 " + kind + " 0 at " + corners)
                .then("tile(0, " + z + ", " + tx + ", " + ty + ") has " + bytes);
    }

    private static void line(String corners, String bytes) {
        alone(LINE, corners, 4, 0, 0, bytes);
    }

    private static void byNumbers() {
        Check.sentence("A TILE of an edition has, by numbers, of each feature");
        Script.run("""
                tile(0, 4, 0, 0) has nothing
                put 30 0 0 at 3 3
                put 10 0 0 at 1 1
                put 20 0 0 at 2 2
                tile(0, 4, 0, 0) has 10 0 1 1 2 2 10 0 1 1 4 4 10 0 1 1 6 6
                put 10 0 0 at 9 9
                tile(0, 4, 0, 0) has 10 0 1 1 18 18 10 0 1 1 4 4 10 0 1 1 6 6
                drop(20): true
                tile(0, 4, 0, 0) has 10 0 1 1 18 18 20 0 1 1 6 6
                """);
        StringBuilder bytes = new StringBuilder();
        Script full = new Script();
        for (int i = 24; i > 0; i--) {
            full.then("put " + i + " 0 0 at " + i + " 0");
            bytes.insert(0, " 1 0 1 1 " + 2 * i + " 0");
        }
        full.then("tile(0, 4, 0, 0) has" + bytes);
    }

    private static void ends() {
        Check.sentence("the ends of a line stay");
        line("0 0 1 0", "1 1 1 2 0 0 2 0");
        line("0 0 0 1", "1 1 1 2 0 0 0 2");
        line("0 0 1 0 2 0", "1 1 1 2 0 0 4 0");
        line("10 10 60 10 10 10", "1 1 1 3 20 20 100 0 99 0");
    }

    private static void firstCorner() {
        Check.sentence("of an area the first corner, which stands behind the last one, too");
        // The corner (20, 1) is one step beside the edge of its neighbours: it stays as the first.
        alone(AREA, "20 1 40 0 40 40 0 40 0 0", 4, 0, 0, "1 2 1 5 40 2 40 1 0 80 79 0 0 79");
        alone(AREA, "40 0 40 40 0 40 0 0 20 1", 4, 0, 0, "1 2 1 4 80 0 0 80 79 0 0 79");
        // Between the last one that stays and the first: one step away, two steps away.
        alone(AREA, "0 0 40 0 40 40 0 40 1 20", 4, 0, 0, "1 2 1 4 0 0 80 0 0 80 79 0");
        alone(AREA, "0 0 40 0 40 40 0 40 2 20", 4, 0, 0, "1 2 1 5 0 0 80 0 0 80 79 0 4 39");
        // The same as the last of twelve corners.
        String eleven = "0 0 20 10 40 0 60 10 80 0 100 10 120 0 120 60 80 50 40 60 0 60";
        String bytes = " 0 0 40 20 40 19 40 20 40 19 40 20 40 19 0 120 79 19 79 20 79 0";
        alone(AREA, eleven, 4, 0, 0, "1 2 1 11" + bytes);
        alone(AREA, eleven + " 1 30", 4, 0, 0, "1 2 1 11" + bytes);
        alone(AREA, eleven + " 2 30", 4, 0, 0, "1 2 1 12" + bytes + " 4 59");
    }

    private static void farEnough() {
        Check.sentence("stays, if it is at least 2 steps away");
        line("0 10 20 11 40 10", "1 1 1 2 0 20 80 0");
        line("0 10 20 12 40 10", "1 1 1 3 0 20 40 4 40 3");
        line("0 10 20 9 40 10", "1 1 1 2 0 20 80 0");
        line("0 10 20 8 40 10", "1 1 1 3 0 20 40 3 40 4");
        line("10 0 11 20 10 40", "1 1 1 2 20 0 0 80");
        line("10 0 12 20 10 40", "1 1 1 3 20 0 4 40 3 40");
        // Aslant, 50 steps long: 100 / 50 is 2, 99 / 50 is less, on either side.
        line("0 0 5 10 30 40", "1 1 1 3 0 0 10 20 50 60");
        line("0 0 15 17 30 40", "1 1 1 2 0 0 60 80");
        line("0 0 3 7 30 40", "1 1 1 2 0 0 60 80");
        line("0 0 25 30 30 40", "1 1 1 3 0 0 50 60 10 20");
        // 8190 / 4095.0001 steps is a hair below 2, 8191 / 4095.0001 a hair above.
        line("0 0 0 2 4095 1", "1 1 1 2 0 0 144 4 0");
        alone(LINE, "0 0 4094 3 4095 1", 4, 15, 0, "1 1 1 3 15 6 140 4 0 2 3");
        // Steps of the zoom, not numbers of the world.
        alone(LINE, "0 0 320 31 640 0", 0, 0, 0, "1 1 1 2 0 0 80 0");
        alone(LINE, "0 0 320 32 640 0", 0, 0, 0, "1 1 1 3 0 0 40 4 40 3");
        alone(LINE, "0 0 160 3 320 0", 3, 0, 0, "1 1 1 2 0 0 192 2 0");
        alone(LINE, "0 0 160 4 320 0", 3, 0, 0, "1 1 1 3 0 0 160 1 4 160 1 3");
    }

    private static void farthest() {
        Check.sentence("the one that is farthest from the straight line through these two");
        // The farther one first, so that the other is then too near to a side of it.
        line("0 0 10 5 20 9 40 0", "1 1 1 3 0 0 40 18 40 17");
        line("0 0 20 9 30 5 40 0", "1 1 1 3 0 0 40 18 40 17");
        // From the line, not from its part between the two: (60, 1) is far from both ends.
        line("10 0 60 1 30 0", "1 1 1 2 20 0 40 0");
        line("30 0 10 1 60 0", "1 1 1 2 60 0 60 0");
        line("30 0 10 2 60 0", "1 1 1 3 60 0 39 4 100 3");
    }

    private static void fromThePoint() {
        Check.sentence("(from the point, if they are in one place");
        line("50 50 51 51 50 50", "nothing");
        line("50 50 51 50 50 50", "nothing");
        line("50 50 52 50 50 50", "1 1 1 3 100 100 4 0 3 0");
        line("50 50 50 48 50 50", "1 1 1 3 100 100 0 3 0 4");
        line("50 50 51 48 50 50", "1 1 1 3 100 100 2 3 1 4");
        // Farther by x and y together, though neither by their sum nor as the first.
        line("50 50 53 51 54 50 50 50", "1 1 1 3 100 100 8 0 7 0");
        // At zoom 0 in one place, though not in the world.
        alone(LINE, "0 0 32 0 15 15", 0, 0, 0, "1 1 1 3 0 0 4 0 3 0");
        alone(LINE, "0 0 31 15 15 15", 0, 0, 0, "nothing");
        // An area's first corner against itself.
        alone(AREA, "50 50 51 50 51 51", 4, 0, 0, "nothing");
        alone(AREA, "50 50 52 50 50 52", 4, 0, 0, "1 2 1 3 100 100 4 0 3 4");
    }

    private static void ofTwoAlike() {
        Check.sentence("of two alike the one that comes first) stays");
        line("0 0 10 3 14 3 20 0", "1 1 1 3 0 0 20 6 20 5");
        line("0 0 6 3 10 3 20 0", "1 1 1 3 0 0 12 6 28 5");
        // Both are 5 steps from the point; then the other is 7 / 5 steps from the line.
        line("100 100 103 104 104 103 100 100", "1 1 1 3 200 1 200 1 6 8 5 7");
        line("100 100 104 103 103 104 100 100", "1 1 1 3 200 1 200 1 8 6 7 5");
    }

    private static void bothSides() {
        Check.sentence("and it is done so on both sides of it");
        line("0 0 10 30 20 0 30 60 40 0 50 30 60 0",
                "1 1 1 7 0 0 20 60 20 59 20 120 20 119 20 60 20 59");
        // Ahead of it one goes and one stays, behind it as well.
        line("0 0 10 1 20 0 30 60 40 0 50 1 60 0", "1 1 1 5 0 0 40 0 20 120 20 119 40 0");
        line("0 0 10 40 20 0 30 40 40 0 50 40 60 0 70 40 80 0 90 40 100 0 110 40",
                "1 1 1 12 0 0 20 80 20 79 20 80 20 79 20 80 20 79 20 80 20 79 20 80 20 79 20 80");
        alone(AREA, "0 0 20 10 40 0 30 20 40 40 20 30 0 40 10 20", 4, 0, 0,
                "1 2 1 8 0 0 40 20 40 19 19 40 20 40 39 19 39 20 20 39");
    }

    private static void noneBetween() {
        Check.sentence("else none between them stays");
        line("0 10 5 11 10 9 15 11 20 9 25 11 30 10", "1 1 1 2 0 20 60 0");
        line("0 0 10 0 20 0 30 0 40 0 50 0 60 0 70 0 80 0 90 0 100 0 110 0", "1 1 1 2 0 0 220 1 0");
        alone(AREA, "0 0 20 0 40 0 40 20 40 40 20 40 0 40 0 20", 4, 0, 0, "1 2 1 4 0 0 80 0 0 80 79 0");
    }

    private static void cornersInOnePlace() {
        Check.sentence("Then of corners in one place that follow each other the first one stays");
        alone(LINE, "0 0 15 15 64 0", 0, 0, 0, "1 1 1 2 0 0 8 0");
        alone(LINE, "0 0 64 0 79 15", 0, 0, 0, "1 1 1 2 0 0 8 0");
        alone(LINE, "0 0 64 0 79 15 0 64", 0, 0, 0, "1 1 1 3 0 0 8 0 7 8");
        Check.sentence("(of an area the last one goes, too, if it is where the first one is)");
        alone(AREA, "0 0 64 0 64 64 5 9", 0, 0, 0, "1 2 1 3 0 0 8 0 0 8");
        alone(AREA, "0 0 64 0 64 64 0 64 3 20", 0, 0, 0, "1 2 1 4 0 0 8 0 0 8 7 0");
    }

    private static void tooFewAtAZoom() {
        Check.sentence("A line with fewer than 2, an area with fewer than 3 is not in the tile");
        alone(LINE, "0 0 15 15", 0, 0, 0, "nothing");
        alone(LINE, "0 0 16 0", 0, 0, 0, "1 1 1 2 0 0 2 0");
        alone(LINE, "0 0 15 15", 1, 0, 0, "1 1 1 2 0 0 2 2");
        // Two corners are left of an area; three; two and a hair.
        alone(AREA, "0 0 64 0 64 32", 0, 0, 0, "nothing");
        alone(AREA, "0 0 64 0 64 48", 0, 0, 0, "1 2 1 3 0 0 8 0 0 6");
        alone(AREA, "0 0 15 0 15 15", 0, 0, 0, "nothing");
        alone(AREA, "0 0 160 1 160 3", 4, 0, 0, "nothing");
        alone(AREA, "0 0 160 0 160 3", 4, 0, 0, "1 2 1 3 0 0 192 2 0 0 6");
        // The others of its edition are there all the same.
        Script.run("""
                put 1 1 0 at 0 0 15 15
                put 2 0 0 at 16 16
                put 3 2 0 at 0 0 15 0 15 15
                tile(0, 0, 0, 0) has 2 0 1 1 2 2
                """);
    }

    private static void pointsOutside() {
        Check.sentence("a point that is outside is gone");
        String[][] due = {
            {"248 300", "1 0 1 1 15 88"}, {"247 300", "nothing"},
            {"520 300", "1 0 1 1 144 4 88"}, {"521 300", "nothing"},
            {"300 248", "1 0 1 1 88 15"}, {"300 247", "nothing"},
            {"300 520", "1 0 1 1 88 144 4"}, {"300 521", "nothing"},
            {"248 248", "1 0 1 1 15 15"}, {"520 520", "1 0 1 1 144 4 144 4"},
            {"247 247", "nothing"}, {"521 521", "nothing"}, {"0 0", "nothing"}, {"4095 4095", "nothing"}};
        for (String[] v : due) {
            alone(POINT, v[0], 4, 1, 1, v[1]);
        }
    }

    private static void pointsOutsideAtEachZoom() {
        Check.sentence("CUT by the sides x >= 256 * tx - 8, x <= 256 * tx + 264, and y likewise");
        for (int z = 1; z <= 4; z++) {
            int step = 1 << (4 - z);
            int last = (1 << z) - 1;
            int in = step * (256 * last - 8);
            alone(POINT, in + " 4095", z, last, last, "1 0 1 1 15 254 3");
            alone(POINT, (in - 1) + " 4095", z, last, last, "nothing");
            alone(POINT, "4095 " + in, z, last, last, "1 0 1 1 254 3 15");
            alone(POINT, "4095 " + (in - 1), z, last, last, "nothing");
            int out = step * 265;
            alone(POINT, (out - 1) + " 0", z, 0, 0, "1 0 1 1 144 4 0");
            alone(POINT, out + " 0", z, 0, 0, "nothing");
            alone(POINT, "0 " + (out - 1), z, 0, 0, "1 0 1 1 0 144 4");
            alone(POINT, "0 " + out, z, 0, 0, "nothing");
        }
    }

    private static void inTile(String corners, String bytes) {
        alone(LINE, corners, 4, 1, 1, bytes);
    }

    private static void linesInside() {
        Check.sentence("A line: what is inside stays");
        inTile("248 248 520 520", "1 1 1 2 15 15 160 4 160 4");
        inTile("520 520 248 248", "1 1 1 2 144 4 144 4 159 4 159 4");
        // One step farther, where a corner is put on the border.
        inTile("247 300 400 300", "1 1 1 2 15 88 176 2 0");
        inTile("400 300 521 300", "1 1 1 2 160 2 88 240 1 0");
        inTile("300 247 300 400", "1 1 1 2 88 15 0 176 2");
        inTile("300 400 300 521", "1 1 1 2 88 160 2 0 240 1");
        inTile("0 300 4095 300", "1 1 1 2 15 88 160 4 0");
        inTile("300 4095 300 0", "1 1 1 2 88 144 4 0 159 4");
        // Beside the tile on each side, and past its corner.
        for (String corners : new String[] {"247 0 247 999", "521 0 521 999", "0 247 999 247", "0 521 999 521",
            "200 290 290 200", "500 600 600 500", "0 0 4095 0", "0 4095 4095 4095"}) {
            inTile(corners, "nothing");
        }
        // Just over its corner: from (248, 249) to (249, 248).
        inTile("200 297 297 200", "1 1 1 2 15 13 2 1");
    }

    private static void linesOnTheBorder() {
        Check.sentence("(an end on the border is inside)");
        // From the border outwards, from one step inside outwards, along the border.
        inTile("520 300 600 300", "nothing");
        inTile("519 300 600 300", "1 1 1 2 142 4 88 2 0");
        inTile("600 300 520 300", "nothing");
        inTile("600 300 519 300", "1 1 1 2 144 4 88 1 0");
        inTile("248 300 200 300", "nothing");
        inTile("249 300 200 300", "1 1 1 2 13 88 1 0");
        inTile("300 248 300 200", "nothing");
        inTile("300 249 300 200", "1 1 1 2 88 13 0 1");
        inTile("300 520 300 600", "nothing");
        inTile("300 519 300 600", "1 1 1 2 88 142 4 0 2");
        // One step long, from outside to the border: the corner that is put is where its end is.
        for (String corners : new String[] {"247 300 248 310", "521 300 520 310", "300 247 310 248", "300 521 310 520",
            "248 310 247 300", "520 310 521 300", "310 248 300 247", "310 520 300 521"}) {
            inTile(corners, "nothing");
        }
        inTile("520 300 520 400", "1 1 1 2 144 4 88 0 200 1");
        inTile("248 300 248 400", "1 1 1 2 15 88 0 200 1");
        inTile("300 248 400 248", "1 1 1 2 88 15 200 1 0");
        inTile("300 520 400 520", "1 1 1 2 88 144 4 200 1 0");
        // A bend on the border does not part a line that stays inside.
        inTile("400 300 520 350 400 400", "1 1 1 3 160 2 88 240 1 100 239 1 100");
    }

    private static void linesInPieces() {
        Check.sentence("A line falls into pieces: a corner is put on the border, which ends a piece, or begins one");
        inTile("400 300 600 300 600 400 400 400", "1 1 2 2 160 2 88 240 1 0 2 0 200 1 239 1 0");
        inTile("400 300 100 300 100 400 400 400", "1 1 2 2 160 2 88 175 2 0 2 0 200 1 176 2 0");
        inTile("300 400 300 100 400 100 400 400", "1 1 2 2 88 160 2 0 175 2 2 200 1 0 0 176 2");
        inTile("300 400 300 600 400 600 400 400", "1 1 2 2 88 160 2 0 240 1 2 200 1 0 0 239 1");
        // It ends outside, begins outside, and is whole in the midst.
        inTile("600 300 400 300 400 400 600 400", "1 1 1 4 144 4 88 239 1 0 0 200 1 240 1 0");
        // Out by one side and in by another.
        inTile("400 400 600 400 600 600 400 600 400 450",
                "1 1 2 2 160 2 160 2 240 1 0 2 239 1 240 1 0 139 1");
        // A piece ends where the next one begins: they stay two.
        inTile("400 300 600 300 400 301", "1 1 2 2 160 2 88 240 1 0 2 0 0 239 1 2");
    }

    private static void pieceWithOneCorner() {
        Check.sentence("A piece with one corner is gone");
        inTile("600 300 520 350 600 400", "nothing");
        inTile("200 300 248 350 200 400", "nothing");
        inTile("300 200 350 248 400 200", "nothing");
        inTile("300 600 350 520 400 600", "nothing");
        // One step farther inside it has two or three.
        inTile("600 300 519 350 600 400", "1 1 1 3 144 4 186 1 1 2 2 2");
        // Only the piece goes, not the line: ahead of another one, and behind it.
        inTile("600 300 520 350 600 400 600 450 400 450", "1 1 1 2 144 4 132 3 239 1 0");
        inTile("400 450 600 450 600 400 520 350 600 300", "1 1 1 2 160 2 132 3 240 1 0");
        // The tile's outermost place alone, where two borders meet.
        inTile("500 540 540 500", "nothing");
        inTile("500 539 539 500", "1 1 1 2 142 4 144 4 2 1");
    }

    private static void area(String corners, String bytes) {
        alone(AREA, corners, 4, 1, 1, bytes);
    }

    private static void areaStaysOneRing() {
        Check.sentence("An area stays one ring, corners being put on the border in the same way");
        // Two parts inside, joined along the border.
        area("600 300 300 300 300 350 600 350 600 400 300 400 300 450 600 450 610 450 610 300",
                "1 2 1 8 144 4 88 183 3 0 0 100 184 3 0 0 100 183 3 0 0 100 184 3 0");
        // All of the tile; nothing of it, though it goes round it.
        area("0 0 4095 0 4095 4095 0 4095", "1 2 1 4 144 4 15 0 160 4 159 4 0 0 159 4");
        area("0 0 999 0 999 999 990 999 990 10 0 10", "nothing");
        area("248 248 520 248 520 520 248 520", "1 2 1 4 15 15 160 4 0 0 160 4 159 4 0");
        area("247 247 521 247 521 521 247 521", "1 2 1 4 144 4 15 0 160 4 159 4 0 0 159 4");
    }

    private static void areaFromItsFirstCorner() {
        Check.sentence("in the order in which they are met from its first corner on");
        String[][] due = {
            {"400 300 600 300 600 400 400 400", "1 2 1 4 160 2 88 240 1 0 0 200 1 239 1 0"},
            {"600 300 600 400 400 400 400 300", "1 2 1 4 144 4 160 2 239 1 0 0 199 1 240 1 0"},
            {"600 400 400 400 400 300 600 300", "1 2 1 4 144 4 160 2 239 1 0 0 199 1 240 1 0"},
            {"400 400 400 300 600 300 600 400", "1 2 1 4 160 2 160 2 0 199 1 240 1 0 0 200 1"}};
        for (String[] v : due) {
            area(v[0], v[1]);
        }
    }

    private static void areaOnTheBorder() {
        Check.sentence("an area with fewer than 3 is gone");
        // One edge on the border, one corner on it; one step farther inside.
        area("520 300 600 300 600 400 520 400", "nothing");
        area("520 350 600 300 600 400", "nothing");
        area("519 300 600 300 600 400 519 400", "1 2 1 4 142 4 88 2 0 0 200 1 1 0");
        area("248 300 200 300 200 400 248 400", "nothing");
        area("249 300 200 300 200 400 249 400", "1 2 1 4 13 88 1 0 0 200 1 2 0");
        area("300 248 300 200 400 200 400 248", "nothing");
        area("300 249 300 200 400 200 400 249", "1 2 1 4 88 13 0 1 200 1 0 0 2");
        area("300 520 300 600 400 600 400 520", "nothing");
        area("300 519 300 600 400 600 400 519", "1 2 1 4 88 142 4 0 2 200 1 0 0 1");
        // Three are left of a tip.
        area("510 350 600 260 600 440", "1 2 1 3 252 3 188 1 20 19 0 40");
    }

    private static void nearestWholeNumber() {
        Check.sentence("The other coordinate of a corner that is put there is the nearest whole number, halves upwards");
        // From x 256 to 264 and on to 272, or 280: half of the way, or a third.
        line("256 10 272 11", "1 1 1 2 128 4 20 16 2");
        line("256 11 272 10", "1 1 1 2 128 4 22 16 0");
        line("272 11 256 10", "1 1 1 2 144 4 22 15 1");
        line("272 10 256 11", "1 1 1 2 144 4 22 15 0");
        line("256 10 280 11", "1 1 1 2 128 4 20 16 0");
        line("256 11 280 10", "1 1 1 2 128 4 22 16 0");
        line("256 10 280 12", "1 1 1 2 128 4 20 16 2");
        line("256 12 280 10", "1 1 1 2 128 4 24 16 1");
        line("10 256 11 272", "1 1 1 2 20 128 4 2 16");
        line("11 256 10 272", "1 1 1 2 22 128 4 0 16");
        line("11 272 10 256", "1 1 1 2 22 144 4 1 15");
        line("10 272 11 256", "1 1 1 2 22 144 4 0 15");
        // By the two other sides: (244 .. 252) to 248.
        inTile("244 300 252 301", "1 1 1 2 15 90 8 0");
        inTile("252 301 244 300", "1 1 1 2 7 90 7 0");
        inTile("300 244 301 252", "1 1 1 2 90 15 0 8");
        inTile("301 252 300 244", "1 1 1 2 90 7 0 7");
        // 22 and 2046 / 4095, a hair less than a half; 65 and 2049 / 4095, a hair more.
        line("0 0 4095 349", "1 1 1 2 0 0 144 4 44");
        line("4095 349 0 0", "1 1 1 2 144 4 44 143 4 43");
        line("0 0 4095 1016", "1 1 1 2 0 0 144 4 132 1");
        line("0 0 1016 4095", "1 1 1 2 0 0 132 1 144 4");
        // An area's, too.
        alone(AREA, "256 10 272 11 272 60 256 60", 4, 0, 0, "1 2 1 4 128 4 20 16 2 0 98 15 0");
    }

    private static void oneAfterTheOther() {
        Check.sentence("one after the other: what the next side cuts has the corners that the side before put");
        inTile("247 246 257 251", "1 1 1 2 11 15 14 6");
        // The left side first, then the right one: 480 / 321 is 1 in whole numbers, 480 / 320 is 2.
        alone(LINE, "200 0 521 10", 4, 1, 0, "1 1 1 2 15 2 160 4 18");
        alone(LINE, "521 10 200 0", 4, 1, 0, "1 1 1 2 144 4 20 159 4 17");
        alone(LINE, "0 200 10 521", 4, 0, 1, "1 1 1 2 2 15 18 160 4");
        alone(LINE, "10 521 0 200", 4, 0, 1, "1 1 1 2 20 144 4 17 159 4");
    }

    private static void behindAllFour() {
        Check.sentence("Behind all four: of corners in one place that follow each other the first one stays, as in 2");
        // A bend on the border: the corner that is put there is in the same place.
        inTile("400 300 520 300 600 400", "1 1 1 2 160 2 88 240 1 0");
        inTile("600 400 520 300 400 300", "1 1 1 2 144 4 88 239 1 0");
        area("400 300 520 300 600 400 600 500 400 500", "1 2 1 4 160 2 88 240 1 0 0 144 3 239 1 0");
        // The first corner on the border: the last one is put where it is, and goes.
        area("520 300 600 400 600 500 400 500 400 300", "1 2 1 4 144 4 88 0 144 3 239 1 0 0 143 3");
        area("520 300 400 300 400 500 600 500 600 400", "1 2 1 4 144 4 88 239 1 0 0 144 3 240 1 0");
        Check.sentence("a piece with fewer than 2, an area with fewer than 3 is gone");
        // (519, 300) to (521, 300.4): two corners, of which the second is put.
        inTile("600 299 520 300 600 301", "nothing");
        area("520 300 600 299 600 301", "nothing");
        area("519 300 700 299 700 301", "nothing");
    }

    private static void ifAnythingIsLeft() {
        Check.sentence("WRITTEN, if anything is left");
        Script.run("""
                put 1 0 0 at 0 0
                put 2 1 0 at 600 0 600 600
                put 3 2 0 at 0 0 100 0 0 100
                put 4 0 0 at 300 300
                tile(0, 4, 1, 1) has 4 0 1 1 88 88
                tile(0, 4, 5, 5) has nothing
                """);
    }

    private static void numberLessThatBefore() {
        Check.sentence("a COUNT: the number less that of the feature before (0 at first)");
        Script.run("""
                put 1 0 0 at 0 0
                put 128 0 0 at 0 0
                put 256 0 0 at 600 600
                put 257 0 0 at 0 0
                put 9999 0 0 at 0 0
                tile(0, 4, 0, 0) has 1 0 1 1 0 0 127 0 1 1 0 0 129 1 0 1 1 0 0 142 76 0 1 1 0 0
                tile(0, 4, 2, 2) has 128 2 0 1 1 176 1 176 1
                drop(128): true
                drop(257): true
                tile(0, 4, 0, 0) has 1 0 1 1 0 0 142 78 0 1 1 0 0
                """);
    }

    private static void kindAndClass() {
        Check.sentence("a byte KIND + 4 * CLASS");
        String[] corners = {"1 1", "1 1 9 9", "0 0 9 0 9 9"};
        String[] bytes = {" 1 1 2 2", " 1 2 2 2 16 16", " 1 3 0 0 18 0 0 18"};
        for (int kind = 0; kind <= 2; kind++) {
            for (int sort = 0; sort <= 9; sort++) {
                Script.run("corners " + corners[kind] + "\nfeature(1, " + kind + ", " + sort + ", 0, 0): 1")
                        .then("tile(0, 4, 0, 0) has 1 " + (kind + 4 * sort) + bytes[kind]);
            }
        }
    }

    private static void howManyPieces() {
        Check.sentence("a COUNT: how many pieces; for each a COUNT: how many corners");
        inTile(toAndFro(), bytesToAndFro());
    }

    /** Over the whole tile and back, so that each of eleven edges is a piece. */
    private static String toAndFro() {
        StringBuilder corners = new StringBuilder();
        for (int i = 0; i < 12; i++) {
            corners.append(i % 2 == 0 ? " 184" : " 584").append(" ").append(300 + 10 * i);
        }
        return corners.substring(1);
    }

    /**
     * The first edge: 301.6 is 302 on the left border; on the right one 302 + 8 * 272 / 336 is 308.
     * The next: 318.4 is 318 on the left border; on the right one 310 + 8 * 64 / 336 is 312.
     */
    private static String bytesToAndFro() {
        StringBuilder bytes = new StringBuilder("1 1 11");
        for (int i = 0; i < 11; i++) {
            bytes.append(i == 0 ? " 2 15 92" : " 2 0 8").append(i % 2 == 0 ? " 160 4" : " 159 4").append(" 12");
        }
        return bytes.toString();
    }

    private static void fullTile() {
        Check.sentence("a tile of 24 features, each of 12 corners and 11 pieces");
        StringBuilder lines = new StringBuilder();
        StringBuilder all = new StringBuilder();
        for (int number = 1; number <= 24; number++) {
            lines.append("put ").append(number).append(" 1 0 at ").append(toAndFro()).append("\n");
            all.append(bytesToAndFro()).append(" ");
        }
        String[] bytes = all.toString().split(" ");
        // One object answers for a part of the bytes, since it has but 512 calls.
        for (int from = 0; from <= bytes.length; from += 150) {
            Script script = Script.run(lines + "tile(0, 4, 1, 1): " + bytes.length);
            for (int i = from; i < from + 150; i++) {
                script.then("octet(" + i + "): " + (i < bytes.length ? bytes[i] : "NONE"));
            }
        }
    }

    private static void howManyCorners() {
        Check.sentence("for each a COUNT: how many corners");
        // A star of six tips outside of the tile: each tip goes for two corners, 18 in all.
        Script.run("put 1 2 0 at 330 330 384 100 438 330 668 300 438 384 668 450"
                + " 438 438 384 668 330 438 100 450 330 384 100 300")
                .then("tile(0, 4, 1, 1)\noctet(2): 1\noctet(3): 18");
    }

    private static void differences() {
        Check.sentence("2 d, or -2 d - 1 for d below 0");
        String[][] due = {{"101 99", "2 1"}, {"99 101", "1 2"}, {"163 36", "126 127"},
            {"164 35", "128 1 129 1"}, {"36 163", "127 126"}, {"35 164", "129 1 128 1"}, {"0 200", "199 1 200 1"}};
        for (String[] v : due) {
            line("100 100 " + v[0], "1 1 1 2 200 1 200 1 " + v[1]);
        }
        inTile("248 248 520 520", "1 1 1 2 15 15 160 4 160 4");
        inTile("520 520 248 248", "1 1 1 2 144 4 144 4 159 4 159 4");
    }

    private static void toTheCornerBefore() {
        Check.sentence("d the difference to the corner before in this feature (at first to 256 * tx, 256 * ty)");
        Script.run("""
                put 1 1 0 at 400 300 600 300 600 400 400 400
                put 2 0 0 at 300 300
                put 3 2 0 at 300 300 310 300 310 310
                tile(0, 4, 1, 1) has 1 1 2 2 160 2 88 240 1 0 2 0 200 1 239 1 0 1 0 1 1 88 88 1 2 1 3 88 88 20 0 0 20
                """);
        alone(POINT, "3900 3000", 4, 15, 11, "1 0 1 1 120 240 2");
    }

    private static void counts() {
        Check.sentence("A COUNT has bytes of seven bits, the lowest first, each but the last one with 128 more;"
                + " as few as can be");
        String[][] due = {{"1", "1"}, {"127", "127"}, {"128", "128 1"}, {"129", "129 1"}, {"255", "255 1"},
            {"256", "128 2"}, {"383", "255 2"}, {"384", "128 3"}, {"8191", "255 63"}, {"8192", "128 64"},
            {"9999", "143 78"}};
        for (String[] v : due) {
            Script.run("put " + v[0] + " 0 0 at 0 0\ntile(0, 4, 0, 0) has " + v[1] + " 0 1 1 0 0");
        }
        String[][] steps = {{"63 64", "126 128 1"}, {"64 63", "128 1 126"}, {"127 128", "254 1 128 2"},
            {"255 256", "254 3 128 4"}, {"0 264", "0 144 4"}};
        for (String[] v : steps) {
            alone(POINT, v[0], 4, 0, 0, "1 0 1 1 " + v[1]);
        }
    }

    private static void noSuchTile() {
        Check.sentence("IndexOutOfBoundsException: there is no such edition or tile");
        Script.run("""
                put 1 0 0 at 0 0
                tile(1, 0, 0, 0): IndexOutOfBounds
                tile(0, 5, 0, 0): IndexOutOfBounds
                tile(1, 5, 0, 0): IndexOutOfBounds
                tile(0, 0, 1, 0): IndexOutOfBounds
                tile(0, 0, 0, 1): IndexOutOfBounds
                tile(MIN, MIN, MIN, MIN): IndexOutOfBounds
                tile(MAX, MAX, MAX, MAX): IndexOutOfBounds
                octet(0): NONE
                tile(0, 0, 0, 0) has 1 0 1 1 0 0
                tile(1, 0, 0, 0): IndexOutOfBounds
                octet(0): 1
                octet(5): 0
                octet(6): NONE
                """);
    }

    private static void octets() {
        Check.sentence("Byte i of the tile in hand; NONE if there is none");
        Script.run("""
                octet(0): NONE
                put 200 0 0 at 255 64
                octet(0): NONE
                tile(0, 4, 0, 0) has 200 1 0 1 1 254 3 128 1
                octet(8): 1
                octet(9): NONE
                octet(-1): NONE
                octet(256): NONE
                octet(-256): NONE
                octet(65536): NONE
                octet(MIN): NONE
                octet(MAX): NONE
                octet(0): 200
                tile(0, 4, 9, 9) has nothing
                octet(-1): NONE
                octet(MIN): NONE
                octet(MAX): NONE
                """);
    }
}
