/** The document's Terms, sentence by sentence: the world, features and editions. */
public final class TermsTest {
    private static final String[] BELOW_0 = {"-1", "-256", "-65536", "-2147483647", "MIN"};

    private TermsTest() {}

    public static void main(String[] args) {
        world();
        zooms();
        steps();
        numbers();
        kinds();
        points();
        lines();
        areas();
        classes();
        leastZooms();
        names();
        wrongNames();
        linesThatStandStill();
        ringsOfDifferentCorners();
        ringsThatAreSound();
        ringsThatMeetThemselves();
        ringsThatFoldBack();
        features();
        editionNumbers();
        keptEditions();
        keptAsTheyWere();
        firstExceptionTold();
        Check.end();
    }

    private static String each(String line, int times) {
        return (line + "\n").repeat(times);
    }

    private static void world() {
        Check.sentence("THE WORLD is a square of whole numbers x, y from 0 to 4095");
        Script.run("""
                corner(0, 0): true
                corner(4095, 0): true
                corner(4095, 4095): true
                corner(0, 4095): true
                feature(1, 2, 0, 4, 0): 1
                tile(0, 4, 0, 0) has 1 2 1 4 0 0 144 4 0 0 144 4 143 4 0
                tile(0, 4, 15, 15) has 1 2 1 4 254 3 15 0 142 4 141 4 0 0 141 4
                """);
        for (String v : new String[] {"-1", "4096", "-4096", "8191", "65536", "-65536", "MIN", "MAX"}) {
            Script.run("""
                    corner(V, 0): false
                    corner(0, V): false
                    corner(V, 4095): false
                    corner(4095, V): false
                    corner(V, V): false
                    feature(1, 0, 0, 0, 0): IllegalArgument
                    """.replace("V", v));
        }
    }

    private static void zooms() {
        Check.sentence("At ZOOM z (0 .. 4) it has 2^z * 2^z TILES");
        for (int z = 0; z <= 4; z++) {
            String side = Integer.toString(1 << z);
            String last = Integer.toString((1 << z) - 1);
            Script script = Script.run("put 1 0 0 at 4095 4095\nput 2 0 0 at 0 0")
                    .then("tile(0, " + z + ", " + last + ", " + last + "): " + (z == 0 ? 14 : 8))
                    .then("tile(0, " + z + ", 0, 0): " + (z == 0 ? 14 : 6));
            for (String v : new String[] {"-1", side, "MIN", "MAX", "65536"}) {
                script.then("tile(0, " + z + ", " + v + ", 0): IndexOutOfBounds");
                script.then("tile(0, " + z + ", 0, " + v + "): IndexOutOfBounds");
                script.then("tile(0, " + z + ", " + v + ", " + last + "): IndexOutOfBounds");
                script.then("tile(0, " + z + ", " + last + ", " + v + "): IndexOutOfBounds");
            }
        }
        for (String z : new String[] {"-1", "5", "-28", "31", "32", "36", "64", "MIN", "MAX"}) {
            Script.run("put 1 0 0 at 0 0\ntile(0, " + z + ", 0, 0): IndexOutOfBounds");
        }
    }

    private static void steps() {
        Check.sentence("a number v of the world is v >> (4 - z) in steps of zoom z");
        for (int z = 0; z <= 4; z++) {
            int step = 1 << (4 - z);
            Script.run("put 1 0 0 at " + (step - 1) + " " + step)
                    .then("tile(0, " + z + ", 0, 0) has 1 0 1 1 0 2")
                    .then("put 1 0 0 at " + 5 * step + " " + (5 * step - 1))
                    .then("tile(0, " + z + ", 0, 0) has 1 0 1 1 10 8");
        }
        Check.sentence("TILE (z, tx, ty) has those from 256 * tx to 256 * tx + 255, and from 256 * ty");
        for (int z = 1; z <= 4; z++) {
            int step = 1 << (4 - z);
            // The margin shows the step before as -1, and the one behind as 256.
            Script.run("put 1 0 0 at " + 256 * step + " " + (256 * step - 1))
                    .then("tile(0, " + z + ", 0, 0) has 1 0 1 1 128 4 254 3")
                    .then("tile(0, " + z + ", 1, 0) has 1 0 1 1 0 254 3")
                    .then("tile(0, " + z + ", 0, 1) has 1 0 1 1 128 4 1")
                    .then("tile(0, " + z + ", 1, 1) has 1 0 1 1 0 1");
        }
    }

    private static void numbers() {
        Check.sentence("A FEATURE has a number (1 .. 9999)");
        Script.run("""
                corners 5 5
                feature(1, 0, 0, 0, 0): 1
                corners 5 5
                feature(9999, 0, 0, 0, 0): 2
                tile(0, 4, 0, 0) has 1 0 1 1 10 10 142 78 0 1 1 10 10
                drop(1): true
                drop(9999): true
                """);
        for (String number : new String[] {"0", "-1", "-9999", "10000", "65537", "MIN", "MAX"}) {
            Script.run("""
                    corners 5 5
                    feature(V, 0, 0, 0, 0): IllegalArgument
                    drop(V): false
                    tile(0, 4, 0, 0) has nothing
                    """.replace("V", number));
        }
    }

    private static void kinds() {
        Check.sentence("a KIND: 0 a point, 1 a line, 2 an area");
        for (String kind : new String[] {"-1", "3", "4", "256", "257", "65538", "MIN", "MAX"}) {
            for (String corners : new String[] {"5 5", "5 5 9 9", "5 5 9 9 5 9", "0 0 9 0 9 9 0 9"}) {
                Script.run("corners " + corners)
                        .then("feature(1, " + kind + ", 0, 0, 0): IllegalArgument")
                        .then("drop(1): false");
            }
            Script.run("feature(1, " + kind + ", 0, 0, 0): IllegalArgument");
        }
    }

    /** Corners in a bow, so that any of them, in turn, are a sound line and a sound ring. */
    private static String bow(int count) {
        StringBuilder corners = new StringBuilder();
        for (int i = 0; i < count; i++) {
            corners.append("corners ").append(20 * i).append(" ").append(2 * i * i).append("\n");
        }
        return corners.toString();
    }

    private static void dueCounts(int kind, int least, int most) {
        for (int count = 0; count <= 12; count++) {
            String due = count >= least && count <= most ? "1" : "IllegalArgument";
            Script.run(bow(count)).then("feature(1, " + kind + ", 0, 0, 0): " + due);
        }
        // A 13th is not taken, so there are still 12.
        String due = most == 12 ? "1" : "IllegalArgument";
        Script.run(bow(12) + "corner(0, 999): false").then("feature(1, " + kind + ", 0, 0, 0): " + due);
    }

    private static void points() {
        Check.sentence("0 a point (1 corner)");
        dueCounts(0, 1, 1);
    }

    private static void lines() {
        Check.sentence("1 a line (2 to 12)");
        dueCounts(1, 2, 12);
    }

    private static void areas() {
        Check.sentence("2 an area (3 to 12)");
        dueCounts(2, 3, 12);
    }

    private static void classes() {
        Check.sentence("a CLASS (0 .. 9)");
        for (int sort = 0; sort <= 9; sort++) {
            Script.run("corners 0 0\nfeature(1, 0, " + sort + ", 0, 0): 1")
                    .then("tile(0, 0, 0, 0) has 1 " + 4 * sort + " 1 1 0 0");
        }
        for (String sort : new String[] {"-1", "10", "64", "256", "65536", "MIN", "MAX"}) {
            Script.run("corners 0 0\nfeature(1, 0, " + sort + ", 0, 0): IllegalArgument\ndrop(1): false");
        }
    }

    private static void leastZooms() {
        Check.sentence("a least zoom (0 .. 4)");
        for (int least = 0; least <= 4; least++) {
            Script.run("corners 0 0\nfeature(1, 0, 0, " + least + ", 0): 1");
        }
        for (String least : new String[] {"-1", "5", "256", "65536", "MIN", "MAX"}) {
            Script.run("corners 0 0\nfeature(1, 0, 0, " + least + ", 0): IllegalArgument\ndrop(1): false");
        }
        Check.sentence("A TILE has each feature whose least zoom is not above z");
        for (int least = 0; least <= 4; least++) {
            for (int z = 0; z <= 4; z++) {
                String due = least <= z ? "1 0 1 1 0 0" : "nothing";
                Script.run("put 1 0 " + least + " at 0 0").then("tile(0, " + z + ", 0, 0) has " + due);
            }
        }
    }

    private static void names() {
        Check.sentence("a name (0 to 8 letters a .. z): one letter in each byte, zeros ahead");
        String[] names = {"", "a", "z", "az", "mno", "zzzz", "aaaaa", "abcdef", "zyxwvut", "aaaaaaaa", "zzzzzzzz"};
        for (String name : names) {
            Script.run("corners 0 0\nfeature(1, 0, 0, 0, '" + name + "'): 1")
                    .then("region(0, 0, 0, 0, 0): done\nextract(0): 1\nlookUp('" + name + "', 0): 1");
        }
    }

    private static void wrongName(long word) {
        Script.run("corners 0 0\nfeature(1, 0, 0, 0, " + word + "): IllegalArgument\ndrop(1): false");
    }

    private static void wrongNames() {
        Check.sentence("IllegalArgumentException: the name is not as told");
        int[] noLetters = {'a' - 1, 'z' + 1, 'A', 'Z', ' ', '0', 1, 0x7F, 0x80, 0x80 + 'a', 0xFF};
        for (int length = 1; length <= 8; length++) {
            for (int at = 0; at < length; at++) {
                long letters = 0x6161616161616161L >>> (64 - 8 * length);
                long hole = letters & ~(255L << (8 * at));
                for (int noLetter : noLetters) {
                    wrongName(hole | (long) noLetter << (8 * at));
                }
                if (at + 1 < length) {
                    wrongName(hole);
                }
            }
        }
        for (long word : new long[] {Long.MIN_VALUE, Long.MAX_VALUE, -1L, 'a' << 8, (long) 'a' << 56}) {
            wrongName(word);
        }
    }

    private static void linesThatStandStill() {
        Check.sentence("No two corners of a line that follow each other are the same");
        String[] wrong = {"5 5 5 5", "5 5 5 5 9 9", "9 9 5 5 5 5", "0 0 5 5 5 5 9 9", "0 0 0 0 0 0",
            "0 0 4095 4095 4095 4095"};
        for (String corners : wrong) {
            Script.run("corners " + corners + "\nfeature(1, 1, 0, 0, 0): IllegalArgument\ndrop(1): false");
        }
        String[] sound = {"5 5 5 6", "5 5 6 5", "5 5 9 9 5 5", "5 5 9 9 5 5 9 9", "0 0 9 0 4 0 6 0",
            "0 0 9 9 9 0 0 9", "5 9 9 5"};
        for (String corners : sound) {
            Script.run("corners " + corners + "\nfeature(1, 1, 0, 0, 0): 1");
        }
        for (int at = 0; at < 11; at++) {
            StringBuilder line = new StringBuilder("corners");
            for (int i = 0; i < 12; i++) {
                line.append(" ").append(i == at + 1 ? at : i).append(" 7");
            }
            Script.run(line + "\nfeature(1, 1, 0, 0, 0): IllegalArgument");
        }
    }

    /** A ring from each of its corners on, both ways round, and with x and y the other way. */
    private static void ring(boolean sound, int... v) {
        int n = v.length / 2;
        for (int from = 0; from < n; from++) {
            for (int way = 0; way < 4; way++) {
                StringBuilder corners = new StringBuilder("corners");
                for (int i = 0; i < n; i++) {
                    int at = (way % 2 == 0 ? from + i : from - i + n) % n;
                    int x = v[2 * at];
                    int y = v[2 * at + 1];
                    corners.append(way < 2 ? " " + x + " " + y : " " + y + " " + x);
                }
                Script.run(corners + "\nfeature(1, 2, 0, 0, 0): " + (sound ? "1" : "IllegalArgument"))
                        .then("drop(1): " + sound);
            }
        }
    }

    private static void ringsOfDifferentCorners() {
        Check.sentence("An area is a ring: its corners differ");
        ring(false, 0, 0, 9, 0, 9, 0);
        ring(false, 0, 0, 9, 0, 9, 0, 9, 9);
        ring(false, 0, 0, 9, 0, 0, 0, 9, 9);
        ring(false, 0, 0, 9, 0, 9, 9, 0, 0, 0, 9);
        ring(false, 0, 0, 20, 0, 10, 10, 20, 20, 0, 20, 10, 10);
        ring(false, 7, 7, 7, 7, 7, 7);
        ring(false, 0, 0, 9, 9, 0, 0);
        ring(true, 0, 0, 1, 0, 0, 1);
    }

    private static void ringsThatAreSound() {
        Check.sentence("no two of its edges have a point in common, but neighbours their corner");
        ring(true, 0, 0, 4095, 0, 4095, 4095, 0, 4095);
        ring(true, 0, 0, 4095, 4094, 4094, 4093);
        // Straight on through a corner.
        ring(true, 0, 0, 5, 0, 9, 0, 9, 9);
        ring(true, 0, 0, 5, 5, 9, 9, 0, 9);
        ring(true, 0, 0, 5, 0, 20, 0, 20, 20);
        ring(true, 0, 0, 5, 5, 20, 20, 0, 20);
        // Two edges on one line, apart; a corner one step beside an edge; two parts one step apart.
        ring(true, 0, 0, 4, 0, 4, 4, 6, 4, 6, 0, 10, 0, 10, 9, 0, 9);
        ring(true, 0, 0, 10, 0, 10, 10, 5, 1, 0, 10);
        ring(true, 0, 0, 20, 0, 20, 9, 1, 9, 1, 10, 20, 10, 20, 20, 0, 20);
        ring(true, 0, 0, 8, 0, 8, 8, 2, 8, 2, 4, 4, 4, 4, 6, 6, 6, 6, 2, 0, 2);
        // A corner that is beside an edge by the least that whole numbers can: (1, 1) and 3 y = 2 x.
        ring(true, 0, 0, 3, 2, 9, 9, 1, 1, 0, 9);
        ring(true, 0, 0, 4095, 4094, 4095, 4095, 2, 2, 0, 4095);
        // Twelve corners, a comb.
        ring(true, 0, 0, 9, 0, 1, 1, 9, 2, 1, 3, 9, 4, 1, 5, 9, 6, 1, 7, 9, 8, 1, 9, 0, 9);
    }

    private static void ringsThatMeetThemselves() {
        Check.sentence("no two of its edges have a point in common");
        ring(false, 0, 0, 9, 9, 9, 0, 0, 9);
        ring(false, 0, 0, 4095, 4095, 4095, 0, 0, 4095);
        ring(false, 0, 0, 3, 2, 1, 1, 2, 0);
        // A corner on an edge: upright, aslant; and on the end of an edge, which is a corner.
        ring(false, 0, 0, 10, 0, 10, 10, 5, 0, 0, 10);
        ring(false, 0, 0, 20, 40, 12, 40, 10, 20, 0, 40);
        ring(false, 0, 0, 10, 0, 10, 10, 10, 5, 0, 10, 10, 7);
        // Edges with a part in common, one within the other, or each of a part.
        ring(false, 0, 0, 6, 0, 6, 4, 4, 4, 4, 0, 10, 0, 10, 9, 0, 9);
        ring(false, 0, 0, 20, 0, 20, 9, 12, 9, 12, 0, 8, 0, 8, 9, 0, 9);
        ring(false, 0, 0, 9, 9, 9, 20, 6, 6, 3, 3, 0, 20);
        // The last edge against one in the midst; twelve corners, of which one tooth is too long.
        ring(false, 0, 0, 10, 5, 10, 0, 20, 0, 4, 4);
        ring(false, 0, 0, 9, 0, 1, 1, 9, 2, 1, 3, 9, 4, 1, 5, 9, 6, 1, 7, 9, 8, 0, 5, 0, 9);
    }

    private static void ringsThatFoldBack() {
        Check.sentence("neighbours have but their corner in common");
        ring(false, 0, 0, 9, 0, 5, 0);
        ring(false, 0, 0, 9, 9, 5, 5);
        ring(false, 0, 0, 4095, 4095, 1, 1);
        ring(false, 0, 0, 9, 0, 5, 0, 5, 9);
        ring(false, 0, 0, 9, 0, 9, 9, 9, 4);
        ring(false, 0, 0, 6, 6, 4, 4, 0, 9);
        ring(false, 5, 0, 9, 0, 0, 0, 5, 9);
        // By a hair no fold: the way back is one step beside.
        ring(true, 0, 0, 9, 0, 5, 1, 5, 9);
        ring(true, 0, 0, 4095, 4095, 4094, 4095);
    }

    private static String twentyFour() {
        StringBuilder lines = new StringBuilder();
        for (int number = 1; number <= 24; number++) {
            lines.append("corners 0 0\nfeature(").append(number).append(", 0, 0, 0, 0): ").append(number).append("\n");
        }
        return lines.toString();
    }

    private static void features() {
        Check.sentence("the PRESENT one (number 0) has at most 24 features");
        Script.run(twentyFour()).then("""
                tile(0, 0, 0, 0): 144
                corners 0 0
                feature(25, 0, 0, 0, 0): IllegalState
                tile(0, 0, 0, 0): 144
                corners 0 0
                feature(9999, 0, 0, 0, 0): IllegalState
                drop(25): false
                drop(9999): false
                corners 1 1
                feature(24, 0, 0, 0, 0): 24
                corners 1 1
                feature(1, 0, 0, 0, 0): 24
                drop(12): true
                corners 0 0
                feature(25, 0, 0, 0, 0): 24
                corners 0 0
                feature(12, 0, 0, 0, 0): IllegalState
                """);
        Check.sentence("The PRESENT edition is closed (it goes on as it is): with its 24 features");
        Script.run(twentyFour()).then("""
                edition(): 1
                corners 0 0
                feature(25, 0, 0, 0, 0): IllegalState
                drop(3): true
                corners 0 0
                feature(25, 0, 0, 0, 0): 24
                tile(1, 0, 0, 0): 144
                """);
    }

    private static void editionNumbers() {
        Check.sentence("those that were closed have numbers 1, 2, ..");
        Script script = new Script();
        for (int number = 1; number <= 508; number++) {
            script.then("edition(): " + number);
        }
        // The last of these is the 512th call, of which an answer is due still.
        script.then("""
                tile(508, 0, 0, 0): 0
                tile(506, 0, 0, 0): IndexOutOfBounds
                tile(509, 0, 0, 0): IndexOutOfBounds
                tile(507, 0, 0, 0): 0
                """);
    }

    private static void keptEditions() {
        Check.sentence("the latest two of them are KEPT");
        for (int closed = 0; closed <= 5; closed++) {
            Script script = Script.run("region(0, 0, 9, 9, 0): done\n" + each("edition()", closed));
            for (int number = -2; number <= closed + 2; number++) {
                boolean found = number == 0 || (number > 0 && number <= closed && number >= closed - 1);
                String due = found ? "0" : "IndexOutOfBounds";
                script.then("tile(" + number + ", 0, 0, 0): " + due)
                        .then("extract(" + number + "): " + due)
                        .then("difference(" + number + ", 0): " + due)
                        .then("difference(0, " + number + "): " + due);
            }
            for (String number : BELOW_0) {
                script.then("tile(" + number + ", 0, 0, 0): IndexOutOfBounds")
                        .then("extract(" + number + "): IndexOutOfBounds")
                        .then("difference(" + number + ", 0): IndexOutOfBounds")
                        .then("difference(0, " + number + "): IndexOutOfBounds");
            }
            script.then("tile(MAX, 0, 0, 0): IndexOutOfBounds\nextract(MAX): IndexOutOfBounds")
                    .then("difference(MAX, 0): IndexOutOfBounds\ndifference(0, MAX): IndexOutOfBounds");
        }
    }

    private static void keptAsTheyWere() {
        Check.sentence("KEPT as they were");
        Script.run("""
                put 1 0 0 at 16 16
                put 2 1 0 at 0 0 64 0
                edition(): 1
                put 1 0 0 at 32 32
                drop(2): true
                put 3 0 0 at 48 48
                edition(): 2
                drop(1): true
                drop(3): true
                tile(0, 0, 0, 0) has nothing
                tile(1, 0, 0, 0) has 1 0 1 1 2 2 1 1 1 2 0 0 8 0
                tile(2, 0, 0, 0) has 1 0 1 1 4 4 2 0 1 1 6 6
                edition(): 3
                put 9 0 0 at 0 0
                tile(2, 0, 0, 0) has 1 0 1 1 4 4 2 0 1 1 6 6
                tile(3, 0, 0, 0) has nothing
                tile(1, 0, 0, 0): IndexOutOfBounds
                edition(): 4
                tile(3, 0, 0, 0) has nothing
                tile(4, 0, 0, 0) has 9 0 1 1 0 0
                """);
    }

    private static void firstExceptionTold() {
        Check.sentence("Of several exceptions that a call may throw the first one told is thrown");
        String[] wrong = {"25, 3, 0, 0, 0", "25, 0, 10, 0, 0", "25, 0, -1, 0, 0", "25, 0, 0, 5, 0", "25, 0, 0, 0, 1",
            "25, 1, 0, 0, 0", "0, 0, 0, 0, 0", "10000, 0, 0, 0, 0"};
        Script full = Script.run(twentyFour());
        for (String arguments : wrong) {
            full.then("corners 0 0\nfeature(" + arguments + "): IllegalArgument");
        }
        full.then("feature(25, 0, 0, 0, 0): IllegalArgument\ncorners 0 0\nfeature(25, 0, 0, 0, 0): IllegalState");
        // Without a region, and where the pack would be refused.
        String tooMuch = "put 1 2 0 at 0 0 4095 0 4095 4095 0 4095\nregion(0, 0, 4095, 4095, 4): done\n";
        for (String before : new String[] {"", tooMuch}) {
            Script.run(before + """
                    extract(1): IndexOutOfBounds
                    extract(-1): IndexOutOfBounds
                    extract(0): IllegalState
                    difference(0, 1): IndexOutOfBounds
                    difference(1, 0): IndexOutOfBounds
                    difference(1, 1): IndexOutOfBounds
                    difference(0, 0): IllegalState
                    """);
        }
    }
}
