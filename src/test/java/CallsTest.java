/** Promises 1 to 7, sentence by sentence: a new object, corners, features, editions, the tile in hand. */
public final class CallsTest {
    private CallsTest() {}

    public static void main(String[] args) {
        newObject();
        newObjectsAreApart();
        cornersTaken();
        cornersNotOfTheWorld();
        twelveCorners();
        inItsPlace();
        usedUp();
        usedUpWhenRefused();
        howManyFeatures();
        notAsTold();
        newAndFull();
        drop();
        dropNone();
        editionGoesOn();
        editionOfNothing();
        tileInHand();
        tileOfAnEdition();
        Check.end();
    }

    private static void newObject() {
        Check.sentence("No features, no editions, no region, no pack, no difference, no tile in hand");
        Script.run("octet(0): NONE\noctet(-1): NONE\noctet(MAX): NONE");
        Script.run("drop(1): false\ndrop(0): false\ndrop(9999): false");
        Script.run("tile(0, 0, 0, 0) has nothing\ntile(0, 4, 15, 15) has nothing");
        Script.run("tile(1, 0, 0, 0): IndexOutOfBounds\nextract(1): IndexOutOfBounds\ndifference(0, 1): IndexOutOfBounds");
        Script.run("edition(): 1");
        Script.run("extract(0): IllegalState\ndifference(0, 0): IllegalState\napply(): IllegalState");
        for (int what = -1; what <= 5; what++) {
            Script.run("pack(W): NONE\npacked(0, W): NONE\ndiffers(0, W): NONE".replace("W", Integer.toString(what)));
        }
        Script.run("take(0, 0, 0): 0\nlookUp(0, 0): NoSuchElement\nnear(0, 0, 0, 0): NoSuchElement");
        Check.sentence("A new object has no corners for the next feature");
        for (int kind = 0; kind <= 2; kind++) {
            Script.run("feature(1, " + kind + ", 0, 0, 0): IllegalArgument");
        }
        Check.due("NONE", AtlasDesk.NONE, -1);
    }

    private static void newObjectsAreApart() {
        Check.sentence("A new object has nothing of another one");
        Script first = Script.run("""
                put 1 0 0 at 0 0
                edition()
                region(0, 0, 9, 9, 0)
                extract(0)
                difference(0, 1)
                tile(0, 0, 0, 0)
                corners 5 5
                """);
        Script.run("""
                octet(0): NONE
                pack(0): NONE
                differs(0, 0): NONE
                feature(1, 0, 0, 0, 0): IllegalArgument
                tile(0, 0, 0, 0) has nothing
                edition(): 1
                extract(0): IllegalState
                """);
        first.then("octet(0): 1\npack(0): 1\nfeature(2, 0, 0, 0, 0): 2\nedition(): 2\napply(): 1");
    }

    private static void cornersTaken() {
        Check.sentence("A corner more for the next feature: true");
        Script.run("""
                corner(0, 0): true
                corner(4095, 4095): true
                corner(0, 4095): true
                feature(1, 1, 0, 4, 0): 1
                tile(0, 4, 15, 15) has 1 1 1 3 15 15 142 4 142 4 141 4 0
                """);
    }

    private static void cornersNotOfTheWorld() {
        Check.sentence("false if x, y are not of the world");
        // What is not taken is no corner, and does not part those that are.
        Script.run("""
                corner(1, 2): true
                corner(-1, 2): false
                corner(1, -1): false
                corner(4096, 2): false
                corner(1, 4096): false
                corner(MIN, MIN): false
                corner(MAX, MAX): false
                corner(MIN, 5): false
                corner(5, MAX): false
                corner(3, 9): true
                feature(1, 1, 0, 4, 0): 1
                tile(0, 4, 0, 0) has 1 1 1 2 2 4 4 14
                """);
    }

    private static void twelveCorners() {
        Check.sentence("false if there are 12");
        StringBuilder bytes = new StringBuilder("1 1 1 12 0 0");
        Script script = new Script();
        for (int i = 0; i < 12; i++) {
            script.then("corner(" + 10 * i + ", " + (i % 2 == 0 ? 0 : 40) + "): true");
            bytes.append(i == 0 ? "" : i % 2 == 0 ? " 20 79" : " 20 80");
        }
        script.then("corner(200, 200): false\ncorner(4096, 0): false\ncorner(110, 40): false\ncorner(0, 0): false")
                .then("feature(1, 1, 0, 4, 0): 1\ntile(0, 4, 0, 0) has " + bytes)
                .then("corner(7, 7): true\nfeature(2, 0, 0, 4, 0): 2");
    }

    private static void inItsPlace() {
        Check.sentence("A feature comes, in the place of one with its number if there is one");
        Script.run("""
                corners 16 16 80 80
                feature(5, 1, 3, 0, 'old'): 1
                corners 32 32
                feature(5, 0, 7, 2, 'new'): 1
                tile(0, 1, 0, 0) has nothing
                tile(0, 2, 0, 0) has 5 28 1 1 16 16
                region(0, 0, 99, 99, 4)
                extract(0): 3
                lookUp('old', 0): NoSuchElement
                lookUp('new', 0): 5
                near(0, 0, 7, 0): 5
                near(0, 0, 3, 0): NoSuchElement
                drop(5): true
                drop(5): false
                """);
    }

    private static void usedUp() {
        Check.sentence("with the corners told, which are used up");
        Script.run("""
                corners 5 5
                feature(1, 0, 0, 0, 0): 1
                feature(2, 0, 0, 0, 0): IllegalArgument
                corners 6 6
                feature(2, 0, 0, 0, 0): 2
                """);
    }

    private static void usedUpWhenRefused() {
        Check.sentence("which are used up in any case");
        String[] refused = {"0, 0, 0, 0, 0", "1, 3, 0, 0, 0", "1, 0, 10, 0, 0", "1, 0, 0, 5, 0", "1, 0, 0, 0, 1",
            "1, 1, 0, 0, 0", "1, 2, 0, 0, 0", "MIN, MIN, MIN, MIN, LEAST"};
        for (String arguments : refused) {
            Script.run("corners 5 5\nfeature(" + arguments + "): IllegalArgument\nfeature(1, 0, 0, 0, 0): IllegalArgument");
            // A line of the old corner and a new one would be sound.
            Script.run("corners 5 5\nfeature(" + arguments + "): IllegalArgument\ncorners 9 9")
                    .then("feature(1, 1, 0, 0, 0): IllegalArgument\ncorners 9 9\nfeature(1, 0, 0, 0, 0): 1");
        }
        Script.run(twentyFour() + """
                corners 5 5
                feature(25, 0, 0, 0, 0): IllegalState
                feature(24, 0, 0, 0, 0): IllegalArgument
                corners 9 9
                feature(24, 1, 0, 0, 0): IllegalArgument
                corners 9 9
                feature(24, 0, 0, 0, 0): 24
                """);
        // Twelve are used up, too: twelve more are taken.
        String twelve = "corners 0 0 1 9 2 0 3 9 4 0 5 9 6 0 7 9 8 0 9 9 10 0 11 9\n";
        Script.run(twelve + "corner(5, 5): false\nfeature(1, 0, 0, 0, 0): IllegalArgument\n" + twelve
                + "corner(5, 5): false\nfeature(1, 1, 0, 0, 0): 1");
    }

    private static String twentyFour() {
        StringBuilder lines = new StringBuilder();
        for (int number = 1; number <= 24; number++) {
            lines.append("put ").append(number).append(" 0 0 at 0 0\n");
        }
        return lines.toString();
    }

    private static void howManyFeatures() {
        Check.sentence("how many features there are");
        Script.run("""
                corners 5 5
                feature(9, 0, 0, 0, 0): 1
                corners 5 5
                feature(3, 0, 0, 0, 0): 2
                corners 5 5
                feature(9, 0, 0, 0, 0): 2
                drop(3): true
                corners 5 5
                feature(8, 0, 0, 0, 0): 2
                drop(8): true
                drop(9): true
                corners 5 5
                feature(3, 0, 0, 0, 0): 1
                edition(): 1
                corners 5 5
                feature(4, 0, 0, 0, 0): 2
                """);
    }

    private static void notAsTold() {
        Check.sentence("IllegalArgumentException: number, kind, class, least zoom, name or corners are not as told");
        String[] wrong = {"0, 0, 0, 0, 0", "10000, 0, 0, 0, 0", "1, -1, 0, 0, 0", "1, 3, 0, 0, 0", "1, 0, -1, 0, 0",
            "1, 0, 10, 0, 0", "1, 0, 0, -1, 0", "1, 0, 0, 5, 0", "1, 0, 0, 0, 96", "1, 0, 0, 0, 123",
            "1, 0, 0, 0, 0x6100", "MIN, 0, 0, 0, 0", "MAX, 0, 0, 0, 0", "1, MIN, 0, 0, 0", "1, MAX, 0, 0, 0",
            "1, 0, MIN, 0, 0", "1, 0, MAX, 0, 0", "1, 0, 0, MIN, 0", "1, 0, 0, MAX, 0", "1, 0, 0, 0, LEAST",
            "1, 0, 0, 0, MOST", "1, 0, 0, 0, -1", "MAX, MAX, MAX, MAX, MOST"};
        for (String arguments : wrong) {
            // Also in the place of a feature that is there, which stays as it was.
            Script.run("corners 5 5\nfeature(" + arguments + "): IllegalArgument\ntile(0, 4, 0, 0) has nothing")
                    .then("put 1 0 4 at 7 7\ncorners 5 5\nfeature(" + arguments + "): IllegalArgument")
                    .then("tile(0, 4, 0, 0) has 1 0 1 1 14 14");
        }
    }

    private static void newAndFull() {
        Check.sentence("IllegalStateException: it is new, and there are 24");
        Script.run(twentyFour() + """
                corners 5 5
                feature(25, 0, 0, 0, 0): IllegalState
                corners 5 5 9 9
                feature(9999, 1, 0, 0, 0): IllegalState
                corners 5 5
                feature(24, 0, 0, 0, 0): 24
                drop(24): true
                corners 5 5
                feature(23, 0, 0, 0, 0): 23
                corners 5 5
                feature(25, 0, 0, 0, 0): 24
                corners 5 5
                feature(24, 0, 0, 0, 0): IllegalState
                """);
    }

    private static void drop() {
        Check.sentence("A feature goes: true");
        Script.run("""
                put 1 0 4 at 1 1
                put 2 0 4 at 2 2
                put 3 0 4 at 3 3
                drop(2): true
                tile(0, 4, 0, 0) has 1 0 1 1 2 2 2 0 1 1 6 6
                drop(1): true
                tile(0, 4, 0, 0) has 3 0 1 1 6 6
                drop(3): true
                tile(0, 4, 0, 0) has nothing
                """);
        Script all = Script.run(twentyFour());
        for (int number = 24; number >= 1; number--) {
            all.then("drop(" + number + "): true\ndrop(" + number + "): false");
        }
        all.then("tile(0, 4, 0, 0) has nothing");
    }

    private static void dropNone() {
        Check.sentence("false if there is none such");
        Script script = Script.run("put 1 0 4 at 1 1\nput 9999 0 4 at 2 2\nput 700 0 4 at 3 3");
        for (String number : new String[] {"0", "-1", "2", "699", "701", "9998", "10000", "65537", "MIN", "MAX"}) {
            script.then("drop(" + number + "): false");
        }
        script.then("tile(0, 4, 0, 0) has 1 0 1 1 2 2 187 5 0 1 1 6 6 211 72 0 1 1 4 4\ndrop(1): true\ndrop(1): false");
        // A feature of a closed edition alone is none of the present one.
        Script.run("put 1 0 0 at 0 0\nedition(): 1\ndrop(1): true\ndrop(1): false\ntile(1, 0, 0, 0) has 1 0 1 1 0 0");
    }

    private static void editionGoesOn() {
        Check.sentence("The PRESENT edition is closed (it goes on as it is): the number of the closed one");
        Script.run("""
                put 1 0 0 at 16 16
                corners 32 32
                edition(): 1
                tile(0, 0, 0, 0) has 1 0 1 1 2 2
                tile(1, 0, 0, 0) has 1 0 1 1 2 2
                feature(2, 0, 0, 0, 0): 2
                tile(0, 0, 0, 0) has 1 0 1 1 2 2 1 0 1 1 4 4
                tile(1, 0, 0, 0) has 1 0 1 1 2 2
                edition(): 2
                edition(): 3
                tile(2, 0, 0, 0) has 1 0 1 1 2 2 1 0 1 1 4 4
                tile(3, 0, 0, 0) has 1 0 1 1 2 2 1 0 1 1 4 4
                """);
    }

    private static void editionOfNothing() {
        Check.sentence("The PRESENT edition is closed, though it has no features");
        Script.run("edition(): 1\ntile(1, 0, 0, 0) has nothing\nput 1 0 0 at 0 0\ntile(1, 0, 0, 0) has nothing")
                .then("edition(): 2\ntile(2, 0, 0, 0) has 1 0 1 1 0 0\ntile(1, 0, 0, 0) has nothing");
    }

    private static void tileInHand() {
        Check.sentence("A tile of an edition is in hand from now on: how many bytes it has");
        Script.run("""
                put 1 0 0 at 16 16
                tile(0, 0, 0, 0): 6
                octet(5): 2
                put 1 0 0 at 32 32
                octet(5): 2
                drop(1): true
                octet(5): 2
                edition(): 1
                octet(5): 2
                tile(0, 0, 0, 0): 0
                octet(0): NONE
                """);
    }

    private static void tileOfAnEdition() {
        Check.sentence("an edition (0, or one that is KEPT)");
        Script.run("""
                put 1 0 0 at 16 16
                edition(): 1
                put 1 0 0 at 32 32
                edition(): 2
                put 1 0 0 at 48 48
                tile(0, 0, 0, 0) has 1 0 1 1 6 6
                tile(1, 0, 0, 0) has 1 0 1 1 2 2
                tile(2, 0, 0, 0) has 1 0 1 1 4 4
                edition(): 3
                tile(1, 0, 0, 0): IndexOutOfBounds
                octet(5): 4
                tile(2, 0, 0, 0) has 1 0 1 1 4 4
                tile(3, 0, 0, 0) has 1 0 1 1 6 6
                tile(4, 0, 0, 0): IndexOutOfBounds
                tile(-1, 0, 0, 0): IndexOutOfBounds
                """);
    }
}
