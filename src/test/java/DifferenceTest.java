/** Differences, and packs that are brought over (promises 13 to 15), sentence by sentence. */
public final class DifferenceTest {
    /** Edition 1 has points 1, 2 and 9, edition 2 has 2, 3 and 9, and 4 in the tile of 2. */
    private static final String TWO_EDITIONS = """
            put 1 0 4 at 3000 100
            put 2 0 4 at 100 3000
            put 9 0 4 at 4000 4000
            edition(): 1
            drop(1): true
            put 3 0 4 at 100 100
            put 4 0 4 at 120 3020
            edition(): 2
            region(0, 0, 4095, 4095, 4): done
            """;
    private static final String ALL_OVER = "put 1 2 0 at 0 0 4095 0 4095 4095 0 4095\n";

    private DifferenceTest() {}

    public static void main(String[] args) {
        removed();
        added();
        changed();
        inOrder();
        forTheRegionInForce();
        refused();
        howManyItTells();
        mostThatItTells();
        noSuchEdition();
        noRegion();
        differs();
        differsNone();
        apply();
        asItWasThen();
        applyBackAndForth();
        applyFull();
        applyWithoutTiles();
        noPackOrNoDifference();
        packOfAnotherRegion();
        tilesThatAreNotThose();
        tilesThatAreThose();
        Check.end();
    }

    private static String told(int k, int change, int z, int tx, int ty, int bytes) {
        int[] v = {change, z, tx, ty, bytes};
        StringBuilder lines = new StringBuilder();
        for (int what = 0; what < 5; what++) {
            lines.append("differs(").append(k).append(", ").append(what).append("): ").append(v[what]).append("\n");
        }
        return lines.toString();
    }

    private static void removed() {
        Check.sentence("tiles that the pack of the first one has and the second one has not (REMOVED, 0)");
        Script.run("put 1 0 3 at 300 300\nedition(): 1\ndrop(1): true\nregion(0, 0, 4095, 4095, 4): done")
                .then("difference(1, 0): 2\n" + told(0, 0, 3, 0, 0, 0) + told(1, 0, 4, 1, 1, 0) + "differs(2, 0): NONE");
        // The feature is there still, but no more in this tile.
        Script.run("put 1 0 4 at 264 0\nedition(): 1\nput 1 0 4 at 265 0\nregion(0, 0, 4095, 4095, 4): done")
                .then("difference(1, 0): 2\n" + told(0, 0, 4, 0, 0, 0) + told(1, 2, 4, 1, 0, 6));
    }

    private static void added() {
        Check.sentence("the other way round (ADDED, 1)");
        Script.run("put 1 0 3 at 300 300\nedition(): 1\ndrop(1): true\nregion(0, 0, 4095, 4095, 4): done")
                .then("difference(0, 1): 2\n" + told(0, 1, 3, 0, 0, 8) + told(1, 1, 4, 1, 1, 6) + "differs(2, 0): NONE");
    }

    private static void changed() {
        Check.sentence("that both have with other bytes (CHANGED, 2)");
        // One byte is another; there are more, or fewer.
        Script.run("put 1 0 4 at 5 5\nedition(): 1\nput 1 0 4 at 5 6\nregion(0, 0, 4095, 4095, 4): done")
                .then("difference(1, 0): 1\n" + told(0, 2, 4, 0, 0, 6));
        Script.run("put 1 0 4 at 5 5\nedition(): 1\nput 2 0 4 at 5 5\nregion(0, 0, 4095, 4095, 4): done")
                .then("difference(1, 0): 1\n" + told(0, 2, 4, 0, 0, 12) + "difference(0, 1): 1\n" + told(0, 2, 4, 0, 0, 6));
        // The number, the kind and the class are in the bytes; the name is not.
        String[][] due = {{"2, 0, 0, 4, 0", "1"}, {"1, 0, 1, 4, 0", "1"}, {"1, 0, 0, 4, 'a'", "0"}, {"1, 0, 0, 3, 0", "1"}};
        for (String[] v : due) {
            Script.run("put 1 0 4 at 5 5\nedition(): 1\ndrop(1): true\ncorners 5 5\nfeature(" + v[0] + "): 1")
                    .then("region(0, 0, 4095, 4095, 4): done\ndifference(1, 0): " + v[1]);
        }
        Check.sentence("tiles that both have with the same bytes are not told");
        Script.run("put 1 0 0 at 5 5\nedition(): 1\nregion(0, 0, 4095, 4095, 4): done\ndifference(1, 0): 0")
                .then("differs(0, 0): NONE\nput 1 0 0 at 6 5\ndifference(1, 0): 2")
                .then(told(0, 2, 3, 0, 0, 6) + told(1, 2, 4, 0, 0, 6));
    }

    private static void inOrder() {
        Check.sentence("A DIFFERENCE tells its tiles in ORDER");
        Script.run(TWO_EDITIONS + "difference(1, 2): 3\n" + told(0, 1, 4, 0, 0, 8) + told(1, 0, 4, 11, 0, 0)
                + told(2, 2, 4, 0, 11, 16) + "difference(2, 1): 3\n" + told(0, 0, 4, 0, 0, 0) + told(1, 1, 4, 11, 0, 8)
                + told(2, 2, 4, 0, 11, 8));
        // By z first, whichever of the two has the tile.
        Script.run("put 1 0 4 at 100 100\nedition(): 1\ndrop(1): true\nput 2 0 3 at 4000 4000")
                .then("region(0, 0, 4095, 4095, 4): done\ndifference(1, 0): 3")
                .then(told(0, 1, 3, 7, 7, 8) + told(1, 0, 4, 0, 0, 0) + told(2, 1, 4, 15, 15, 8));
    }

    private static void forTheRegionInForce() {
        Check.sentence("A DIFFERENCE of two editions, for the region in force");
        Script.run(TWO_EDITIONS + """
                region(0, 0, 255, 255, 4): done
                difference(1, 2): 1
                region(0, 0, 2815, 255, 4): done
                difference(1, 2): 1
                region(0, 0, 2816, 255, 4): done
                difference(1, 2): 2
                region(0, 0, 4095, 4095, 3): done
                difference(1, 2): 0
                """);
    }

    private static void refused() {
        Check.sentence("(It is refused, if one of the packs would be.)");
        String tooMuch = ALL_OVER + "edition(): 1\ndrop(1): true\nregion(0, 0, 4095, 4095, 4): done\n";
        Script.run(tooMuch + "difference(1, 0): IllegalState");
        Script.run(tooMuch + "difference(0, 1): IllegalState");
        Script.run(tooMuch + "difference(1, 1): IllegalState\ndiffers(0, 0): NONE\nextract(0): 0\napply(): IllegalState");
        Script.run(tooMuch + "difference(0, 0): 0\ndifference(1, 0): IllegalState\nextract(0): 0\napply(): 0");
        Script.run(tooMuch + "region(0, 0, 4095, 4095, 3): done\ndifference(1, 0): 85\ndifference(0, 1): 85");
    }

    private static void howManyItTells() {
        Check.sentence("The difference of two editions (0, or KEPT): how many tiles it tells");
        Script.run(TWO_EDITIONS + """
                difference(1, 2): 3
                difference(2, 1): 3
                difference(1, 1): 0
                difference(2, 2): 0
                difference(0, 0): 0
                difference(0, 2): 0
                difference(2, 0): 0
                difference(0, 1): 3
                edition(): 3
                difference(2, 3): 0
                difference(1, 3): IndexOutOfBounds
                """);
    }

    private static void mostThatItTells() {
        Check.sentence("how many tiles it tells: all of 100 and all of 100 others");
        StringBuilder lines = new StringBuilder("region(0, 0, 4095, 4095, 4): done\n");
        for (int edition = 0; edition < 2; edition++) {
            for (int i = 0; i < 6; i++) {
                int y = 128 + 512 * i + 256 * edition;
                lines.append("put ").append(i + 1).append(" 1 4 at 0 ").append(y).append(" 4095 ").append(y).append("\n");
            }
            for (int i = 0; i < 4; i++) {
                int x = 128 + 512 * i + 256 * edition;
                lines.append("put ").append(i + 11).append(" 0 4 at ").append(x).append(" 3456\n");
            }
            lines.append(edition == 0 ? "edition(): 1\n" : "");
        }
        Script script = Script.run(lines + "difference(1, 0): 200\ndiffers(199, 1): 4\ndiffers(200, 0): NONE");
        int[] told = new int[3];
        for (int k = 0; k < 200; k++) {
            told[Integer.parseInt(script.answer("differs(" + k + ", 0)"))]++;
        }
        Check.due("how many are REMOVED", told[0], 100);
        Check.due("how many are ADDED", told[1], 100);
        script.then("extract(1): 100\napply(): 100\npack(3): 0\ndifference(0, 1): 200\napply(): 100\npack(3): 1");
    }

    private static void noSuchEdition() {
        Check.sentence("IndexOutOfBoundsException: no such edition");
        Script script = Script.run(TWO_EDITIONS + "edition(): 3\ndifference(2, 3): 0\ndifference(0, 2): 0");
        for (String edition : new String[] {"-1", "1", "4", "256", "65536", "MIN", "MAX"}) {
            script.then("difference(E, 2): IndexOutOfBounds\ndifference(2, E): IndexOutOfBounds".replace("E", edition))
                    .then("difference(E, E): IndexOutOfBounds\ndifference(E, 0): IndexOutOfBounds".replace("E", edition));
        }
    }

    private static void noRegion() {
        Check.sentence("IllegalStateException: there is no region");
        Script.run("edition(): 1\ndifference(0, 0): IllegalState\ndifference(0, 1): IllegalState")
                .then("difference(1, 0): IllegalState\nregion(0, 0, 9, 9, 5): IllegalArgument\ndifference(1, 0): IllegalState")
                .then("region(0, 0, 9, 9, 4): done\ndifference(1, 0): 0");
    }

    private static void differs() {
        Check.sentence("what 4: how many bytes it has in the second edition");
        Script.run("put 1 1 4 at 0 100 600 100\nedition(): 1\nput 1 0 4 at 128 128\nregion(0, 0, 4095, 4095, 4): done")
                .then("difference(1, 0): 3\n" + told(0, 2, 4, 0, 0, 8) + told(1, 0, 4, 1, 0, 0) + told(2, 0, 4, 2, 0, 0))
                .then("difference(0, 1): 3\n" + told(0, 2, 4, 0, 0, 10) + told(1, 1, 4, 1, 0, 10) + told(2, 1, 4, 2, 0, 10));
        Check.sentence("Of tile k that the difference tells: also behind changes of the present edition");
        Script.run(TWO_EDITIONS + "difference(1, 0): 3\ndrop(2): true\ndrop(3): true\nedition(): 3\nedition(): 4\n"
                + told(0, 1, 4, 0, 0, 8) + told(1, 0, 4, 11, 0, 0) + told(2, 2, 4, 0, 11, 16));
    }

    private static void differsNone() {
        Check.sentence("differs: NONE if there is none such");
        Script script = Script.run(TWO_EDITIONS + "differs(0, 0): NONE\ndifference(1, 2): 3");
        for (String k : new String[] {"-1", "3", "4", "199", "200", "201", "256", "65536", "MIN", "MAX"}) {
            for (int what = -1; what <= 5; what++) {
                script.then("differs(" + k + ", " + what + "): NONE");
            }
        }
        for (String what : new String[] {"-1", "5", "256", "65536", "MIN", "MAX"}) {
            script.then("differs(0, W): NONE\ndiffers(1, W): NONE\ndiffers(2, W): NONE".replace("W", what));
        }
        script.then("differs(2, 0): 2\ndiffers(2, 4): 16\ndifference(2, 2): 0\ndiffers(0, 0): NONE\ndiffers(2, 0): NONE");
    }

    private static void apply() {
        Check.sentence("The pack in hand becomes that of the difference's second edition: how many tiles it has");
        Script.run(TWO_EDITIONS + """
                extract(1): 3
                difference(1, 2): 3
                apply(): 3
                pack(0): 3
                pack(1): 32
                pack(2): 0
                pack(3): 2
                pack(4): 4
                packed(0, 1): 0
                packed(0, 2): 0
                packed(1, 2): 11
                packed(1, 3): 16
                packed(2, 1): 15
                packed(2, 4): 2
                packed(3, 0): NONE
                take(4, 11, 0): 0
                take(4, 0, 0) has 3 0 1 1 200 1 200 1
                lookUp(0, 0): 2
                lookUp(0, 1): 3
                near(0, 0, 0, 0): 3
                """);
        // Tiles SHARED, of another zoom, and in another place than before.
        Script script = Script.run("put 1 0 3 at 4000 4000\nedition(): 1\ndrop(1): true\nput 2 1 4 at 0 300 1023 300")
                .then("region(0, 0, 4095, 4095, 4): done\nextract(1): 2\ndifference(1, 0): 7\napply(): 5\npack(2): 1")
                .then("pack(1): 35\npack(4): 1\npacked(5, 0): NONE");
        int[][] due = {{4, 0, 1, 9, 0}, {4, 1, 1, 9, 1}, {4, 2, 1, 9, 1}, {4, 3, 1, 9, 3}, {4, 4, 1, 8, 4}};
        for (int k = 0; k < due.length; k++) {
            for (int what = 0; what < 5; what++) {
                script.then("packed(" + k + ", " + what + "): " + due[k][what]);
            }
        }
        script.then("take(4, 2, 1) has 2 1 1 2 15 88 160 4 0\ntake(3, 7, 7): 0\ntake(4, 15, 15): 0");
    }

    private static void asItWasThen() {
        Check.sentence("as it was when the difference was made");
        Script.run(TWO_EDITIONS + """
                extract(1): 3
                difference(1, 0): 3
                drop(2): true
                drop(3): true
                drop(4): true
                drop(9): true
                apply(): 3
                pack(3): 0
                pack(4): 4
                take(4, 0, 0): 8
                lookUp(0, 3): 9
                """);
        Script.run(TWO_EDITIONS + "extract(1): 3\ndifference(1, 2): 3\nedition(): 3\nedition(): 4\napply(): 3\npack(3): 2");
        // The first edition, too, is as it was then.
        Script.run("put 1 0 4 at 0 0\nedition(): 1\nregion(0, 0, 9, 9, 4): done\nextract(1): 1\ndifference(0, 1): 0")
                .then("drop(1): true\napply(): 1\nextract(0): 0\napply(): IllegalState\npack(0): 0");
    }

    private static void applyBackAndForth() {
        Check.sentence("The difference stays when a pack has been brought over");
        Script.run(TWO_EDITIONS + """
                extract(1): 3
                difference(1, 2): 3
                apply(): 3
                differs(2, 4): 16
                apply(): IllegalState
                pack(3): 2
                difference(2, 1): 3
                apply(): 3
                pack(3): 1
                packed(0, 1): 11
                extract(2): 3
                apply(): 3
                pack(3): 1
                """);
    }

    private static void applyFull() {
        Check.sentence("from nothing to 85 tiles, and back");
        Script.run(ALL_OVER + """
                edition(): 1
                drop(1): true
                region(0, 0, 4095, 4095, 3): done
                extract(0): 0
                difference(0, 1): 85
                apply(): 85
                packed(84, 1): 7
                packed(85, 0): NONE
                pack(4): 1
                difference(1, 0): 85
                apply(): 0
                packed(0, 0): NONE
                pack(4): 0
                """);
    }

    private static void applyWithoutTiles() {
        Check.sentence("a pack without tiles, and a difference that tells nothing");
        Script.run("region(0, 0, 9, 9, 4): done\nextract(0): 0\ndifference(0, 0): 0\napply(): 0\napply(): 0\npack(0): 0")
                .then("edition(): 1\ndifference(0, 1): 0\napply(): 0\npack(3): 1");
    }

    private static void noPackOrNoDifference() {
        Check.sentence("IllegalStateException: there is no pack or no difference");
        Script.run("apply(): IllegalState\nregion(0, 0, 9, 9, 4): done\napply(): IllegalState");
        Script.run("region(0, 0, 9, 9, 4): done\nextract(0): 0\napply(): IllegalState\npack(0): 0");
        Script.run("region(0, 0, 9, 9, 4): done\ndifference(0, 0): 0\napply(): IllegalState\npack(0): NONE")
                .then("extract(0): 0\napply(): 0");
    }

    private static void packOfAnotherRegion() {
        Check.sentence("IllegalStateException: the pack is of another region");
        // By one number each, though with the same tiles and without any.
        String[] others = {"1, 0, 9, 9, 4", "0, 1, 9, 9, 4", "0, 0, 8, 9, 4", "0, 0, 9, 8, 4", "0, 0, 10, 9, 4",
            "0, 0, 9, 10, 4", "0, 0, 9, 9, 3"};
        for (String other : others) {
            for (String feature : new String[] {"", "put 1 0 0 at 5 5\n"}) {
                Script.run(feature + "region(0, 0, 9, 9, 4): done\nextract(0)\nregion(" + other + "): done\ndifference(0, 0): 0")
                        .then("apply(): IllegalState\nextract(0)\ndifference(0, 0): 0")
                        .then("apply(): " + (feature.isEmpty() ? 0 : other.endsWith("3") ? 4 : 5))
                        .then("region(0, 0, 9, 9, 4): done\ndifference(0, 0): 0\napply(): IllegalState");
            }
        }
        Check.sentence("a region that has the same numbers is not another one");
        Script.run("region(0, 0, 9, 9, 4): done\nextract(0): 0\nregion(0, 0, 9, 9, 3): done\nregion(0, 0, 9, 9, 4): done")
                .then("difference(0, 0): 0\napply(): 0");
    }

    private static void tilesThatAreNotThose() {
        Check.sentence("IllegalStateException: its tiles are not those that the difference's first edition had then");
        // Fewer, more, the same one with other bytes, one in another place with the same bytes.
        String[] others = {"drop(1): true", "put 2 0 4 at 300 300", "put 1 0 4 at 100 101", "put 1 0 4 at 356 100",
            "put 1 0 4 at 100 356", "corners 100 100\nfeature(1, 0, 1, 4, 0): 1"};
        for (String other : others) {
            Script.run("put 1 0 4 at 100 100\nedition(): 1\n" + other + "\nregion(0, 0, 999, 999, 4): done\ndifference(1, 0)")
                    .then("extract(0)\napply(): IllegalState\npack(3): 0\nextract(1): 1\napply()\npack(3): 0")
                    .then("difference(0, 1)\napply(): 1\npack(3): 1\napply(): IllegalState\npack(3): 1");
        }
    }

    private static void tilesThatAreThose() {
        Check.sentence("the pack's tiles are those: it may be of another edition, with other names");
        Script.run("""
                put 1 0 0 at 5 5
                edition(): 1
                edition(): 2
                corners 5 5
                feature(1, 0, 0, 0, 'name'): 1
                region(0, 0, 9, 9, 2): done
                extract(0): 3
                difference(1, 2): 0
                apply(): 3
                pack(3): 2
                lookUp('n', 0): NoSuchElement
                difference(2, 0): 0
                apply(): 3
                pack(3): 0
                lookUp('n', 0): 1
                """);
    }
}
