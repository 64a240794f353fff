/** Names that are looked up, and what is near (promises 16 and 17), sentence by sentence. */
public final class FindTest {
    private static final String EXTRACT = "region(0, 0, 4095, 4095, 0): done\nextract(0)\n";
    private static final String[] NO_K = {"-1", "-2", "256", "65536", "MIN", "MAX"};

    private FindTest() {}

    public static void main(String[] args) {
        fromZeroOn();
        beginsWithTheLetters();
        wordsThatAreNoNames();
        asWordsInABook();
        thenByNumbers();
        ofThePackInHand();
        noneNamed();
        nearest();
        ofAClass();
        pointFeatures();
        ofTwoAlike();
        fromOutsideOfTheWorld();
        nearOfThePackInHand();
        noneNear();
        Check.end();
    }

    private static String named(int number, String name) {
        return "corners 5 5\nfeature(" + number + ", 0, 0, 0, '" + name + "')\n";
    }

    private static void due(Script script, String call, int... numbers) {
        for (int k = 0; k < numbers.length; k++) {
            script.then(call + k + "): " + numbers[k]);
        }
        script.then(call + numbers.length + "): NoSuchElement");
        script.then(call + "-1): NoSuchElement");
    }

    private static void fromZeroOn() {
        Check.sentence("The number of the k-th feature of the pack in hand, from 0 on");
        StringBuilder lines = new StringBuilder();
        int[] numbers = new int[24];
        for (int i = 0; i < 24; i++) {
            numbers[i] = 100 + i;
            lines.append(named(123 - i, "lake"));
        }
        Script script = Script.run(lines + EXTRACT);
        due(script, "lookUp('lake', ", numbers);
        due(script, "lookUp(0, ", numbers);
        due(script, "lookUp('lakes', ");
        for (String k : NO_K) {
            script.then("lookUp('lake', " + k + "): NoSuchElement\nlookUp(0, " + k + "): NoSuchElement");
        }
    }

    private static void beginsWithTheLetters() {
        Check.sentence("whose name begins with the letters of word");
        Script script = Script.run(named(1, "") + named(2, "a") + named(3, "ab") + named(4, "abcdefg") + named(5, "abcdefgh")
                + named(6, "b") + named(7, "zzzzzzzz") + named(8, "bab") + EXTRACT);
        due(script, "lookUp('', ", 1, 2, 3, 4, 5, 6, 8, 7);
        due(script, "lookUp('a', ", 2, 3, 4, 5);
        due(script, "lookUp('ab', ", 3, 4, 5);
        due(script, "lookUp('abc', ", 4, 5);
        due(script, "lookUp('abcdefg', ", 4, 5);
        due(script, "lookUp('abcdefgh', ", 5);
        due(script, "lookUp('abcdefgi', ");
        due(script, "lookUp('b', ", 6, 8);
        due(script, "lookUp('ba', ", 8);
        due(script, "lookUp('bb', ");
        due(script, "lookUp('c', ");
        due(script, "lookUp('zzzzzzz', ", 7);
        due(script, "lookUp('zzzzzzzz', ", 7);
        // Not one that ends so, nor one that has them in the midst.
        due(script, "lookUp('h', ");
        due(script, "lookUp('bcd', ");
        // Also a line's and an area's name.
        due(Script.run("corners 0 0 9 9\nfeature(1, 1, 0, 0, 'road')\ncorners 0 0 9 0 9 9\nfeature(2, 2, 0, 0, 'rock')\n"
                + EXTRACT), "lookUp('ro', ", 1, 2);
    }

    private static void wordsThatAreNoNames() {
        Check.sentence("begins with the letters of word: no name has other letters, or zeros behind them");
        Script script = Script.run(named(1, "") + named(2, "a") + named(3, "ab") + named(4, "abcdefgh") + EXTRACT);
        String[] words = {"'A'", "'a '", "0x6100", "0x610000", "0x6100000000000000", "0x6162000000000000", "0x610062",
            "1", "255", "-1", "LEAST", "MOST", "0xE1", "0x61E2", "96", "123"};
        for (String word : words) {
            due(script, "lookUp(" + word + ", ");
        }
    }

    private static void asWordsInABook() {
        Check.sentence("by names (as words in a book)");
        String[] inOrder = {"", "a", "aa", "aaaaaaaa", "aaaaaaab", "aaaab", "ab", "abz", "ac", "az", "azzzzzzz", "b", "ba",
            "bbbbbbbb", "c", "m", "mzzzzzzz", "n", "y", "yz", "z", "za", "zzzzzzz", "zzzzzzzz"};
        StringBuilder lines = new StringBuilder();
        int[] numbers = new int[24];
        for (int i = 0; i < 24; i++) {
            // Numbers that are in no order of their own.
            numbers[i] = 1 + i * 7 % 24;
            lines.append(named(numbers[i], inOrder[i]));
        }
        due(Script.run(lines + EXTRACT), "lookUp(0, ", numbers);
    }

    private static void thenByNumbers() {
        Check.sentence("then by numbers");
        Script script = Script.run(named(9999, "bay") + named(7, "bay") + named(3, "bays") + named(128, "bay") + named(5, "ba")
                + EXTRACT);
        due(script, "lookUp('b', ", 5, 7, 128, 9999, 3);
        due(script, "lookUp('bay', ", 7, 128, 9999, 3);
    }

    private static void ofThePackInHand() {
        Check.sentence("a feature of the pack in hand");
        // Not one that does not meet the region, nor one of a greater least zoom, nor a newer one.
        Script.run("""
                corners 10 10
                feature(1, 0, 0, 0, 'in')
                corners 11 10
                feature(2, 0, 0, 0, 'in')
                corners 10 10
                feature(3, 0, 0, 3, 'in')
                region(0, 0, 10, 10, 2): done
                extract(0): 3
                lookUp('in', 0): 1
                lookUp('in', 1): NoSuchElement
                corners 10 10
                feature(4, 0, 0, 0, 'in')
                drop(1): true
                lookUp('in', 0): 1
                lookUp('in', 1): NoSuchElement
                extract(0): 3
                lookUp('in', 0): 4
                region(0, 0, 11, 11, 3): done
                lookUp('in', 1): NoSuchElement
                extract(0): 4
                lookUp('in', 0): 2
                lookUp('in', 1): 3
                lookUp('in', 2): 4
                lookUp('in', 3): NoSuchElement
                """);
    }

    private static void noneNamed() {
        Check.sentence("lookUp: NoSuchElementException: there is none such, or no pack");
        Script.run(named(1, "a") + "lookUp('a', 0): NoSuchElement\nregion(0, 0, 9, 9, 0): done\nlookUp('a', 0): NoSuchElement")
                .then("difference(0, 0): 0\nlookUp('a', 0): NoSuchElement\nextract(0): 1\nlookUp('a', 0): 1");
        Script empty = Script.run(EXTRACT);
        due(empty, "lookUp(0, ");
        due(empty, "lookUp('a', ");
        for (String k : NO_K) {
            empty.then("lookUp(0, " + k + "): NoSuchElement");
        }
    }

    private static void nearest() {
        Check.sentence("The number of the k-th nearest point feature of the pack in hand to x, y");
        Script script = Script.run("put 1 0 0 at 100 100\nput 2 0 0 at 103 104\nput 3 0 0 at 106 100\nput 4 0 0 at 4095 4095\n"
                + EXTRACT);
        due(script, "near(100, 100, 0, ", 1, 2, 3, 4);
        due(script, "near(103, 103, 0, ", 2, 1, 3, 4);
        due(script, "near(4095, 4095, 0, ", 4, 2, 3, 1);
        due(script, "near(0, 0, 0, ", 1, 3, 2, 4);
        due(script, "near(106, 101, 0, ", 3, 2, 1, 4);
        for (String k : NO_K) {
            script.then("near(100, 100, 0, " + k + "): NoSuchElement");
        }
        // By x and y together: 7 by one of them is farther than 4 and 5, nearer than 5 and 5.
        due(Script.run("put 1 0 0 at 107 100\nput 2 0 0 at 104 105\nput 3 0 0 at 105 105\n" + EXTRACT),
                "near(100, 100, 0, ", 2, 1, 3);
        StringBuilder lines = new StringBuilder();
        int[] numbers = new int[24];
        for (int i = 0; i < 24; i++) {
            numbers[i] = 1 + i * 5 % 24;
            lines.append("put ").append(numbers[i]).append(" 0 0 at ").append(i * i).append(" 0\n");
        }
        due(Script.run(lines + EXTRACT), "near(0, 0, 0, ", numbers);
    }

    private static void ofAClass() {
        Check.sentence("of a class");
        StringBuilder lines = new StringBuilder();
        for (int sort = 0; sort <= 9; sort++) {
            lines.append("corners 5 5\nfeature(").append(sort + 10).append(", 0, ").append(sort).append(", 0, 0)\n");
        }
        Script script = Script.run(lines + EXTRACT);
        for (int sort = 0; sort <= 9; sort++) {
            due(script, "near(0, 0, " + sort + ", ", sort + 10);
        }
        for (String sort : new String[] {"-1", "10", "256", "65536", "MIN", "MAX"}) {
            due(script, "near(0, 0, " + sort + ", ");
        }
    }

    private static void pointFeatures() {
        Check.sentence("point feature: a line or an area is none");
        Script script = Script.run("put 1 1 0 at 5 5 6 6\nput 2 2 0 at 5 5 9 5 9 9\nput 3 0 0 at 900 900\n" + EXTRACT);
        due(script, "near(5, 5, 0, ", 3);
    }

    private static void ofTwoAlike() {
        Check.sentence("(of two alike the lesser number)");
        Script script = Script.run("put 9 0 0 at 103 104\nput 700 0 0 at 97 96\nput 4 0 0 at 100 105\nput 30 0 0 at 105 100\n"
                + "put 5 0 0 at 106 100\n" + EXTRACT);
        due(script, "near(100, 100, 0, ", 4, 9, 30, 700, 5);
        due(Script.run("put 2 0 0 at 7 7\nput 1 0 0 at 7 7\n" + EXTRACT), "near(7, 7, 0, ", 1, 2);
    }

    private static void fromOutsideOfTheWorld() {
        Check.sentence("nearest to x, y: whatever x, y are");
        Script script = Script.run("put 1 0 0 at 0 0\nput 2 0 0 at 4095 0\nput 3 0 0 at 0 4095\nput 4 0 0 at 4095 4095\n"
                + EXTRACT);
        due(script, "near(-1, -1, 0, ", 1, 2, 3, 4);
        due(script, "near(4096, 4096, 0, ", 4, 2, 3, 1);
        due(script, "near(MIN, MIN, 0, ", 1, 2, 3, 4);
        due(script, "near(MAX, MAX, 0, ", 4, 2, 3, 1);
        due(script, "near(MIN, MAX, 0, ", 3, 1, 4, 2);
        due(script, "near(MAX, MIN, 0, ", 2, 1, 4, 3);
        due(script, "near(MIN, 0, 0, ", 1, 3, 2, 4);
        due(script, "near(0, MAX, 0, ", 3, 4, 1, 2);
        due(script, "near(50000, 0, 0, ", 2, 4, 1, 3);
        due(script, "near(0, -50000, 0, ", 1, 2, 3, 4);
        // One step of y among so many of x.
        due(Script.run("put 2 0 0 at 9 0\nput 1 0 0 at 9 1\n" + EXTRACT), "near(MAX, 0, 0, ", 2, 1);
    }

    private static void nearOfThePackInHand() {
        Check.sentence("near: of the pack in hand");
        Script.run("""
                put 1 0 0 at 10 10
                put 2 0 0 at 11 10
                put 3 0 3 at 10 10
                region(0, 0, 10, 10, 2): done
                extract(0): 3
                near(11, 10, 0, 0): 1
                near(11, 10, 0, 1): NoSuchElement
                put 4 0 0 at 9 9
                drop(1): true
                near(11, 10, 0, 0): 1
                near(11, 10, 0, 1): NoSuchElement
                extract(0): 3
                near(11, 10, 0, 0): 4
                region(0, 0, 11, 11, 3): done
                near(11, 10, 0, 1): NoSuchElement
                extract(0): 4
                near(11, 10, 0, 0): 2
                near(11, 10, 0, 1): 3
                near(11, 10, 0, 2): 4
                near(11, 10, 0, 3): NoSuchElement
                """);
    }

    private static void noneNear() {
        Check.sentence("near: NoSuchElementException: there is none such, or no pack");
        Script.run("put 1 0 0 at 5 5\nnear(5, 5, 0, 0): NoSuchElement\nregion(0, 0, 9, 9, 0): done\nnear(5, 5, 0, 0): NoSuchElement")
                .then("difference(0, 0): 0\nnear(5, 5, 0, 0): NoSuchElement\nextract(0): 1\nnear(5, 5, 0, 0): 1");
        due(Script.run(EXTRACT), "near(0, 0, 0, ");
        Script.run(EXTRACT + "near(MIN, MIN, MIN, MIN): NoSuchElement\nnear(MAX, MAX, MAX, MAX): NoSuchElement");
    }
}
