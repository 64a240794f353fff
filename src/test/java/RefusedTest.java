import java.util.List;
import java.util.Map;
import java.util.Set;
import java.util.TreeMap;
import java.util.TreeSet;

/**
 * What a call does not change, seen on two objects with the same calls, of which one has a call
 * more: they answer alike, but for what the document says that this call changes.
 */
public final class RefusedTest {
    /** A tile in hand, editions 2 and 3 kept, a pack of 2, the difference to 3; no corners told. */
    private static final String BEFORE = """
            region(0, 0, 2047, 2047, 3): done
            put 1 0 0 at 100 100
            edition(): 1
            put 2 1 0 at 0 0 300 300 600 0
            corners 700 700
            feature(3, 0, 4, 0, 'abc')
            edition(): 2
            drop(1): true
            put 4 2 2 at 0 0 900 0 900 900
            corners 40 40
            feature(5, 0, 4, 1, 'abd')
            edition(): 3
            put 6 0 0 at 1500 1500
            tile(2, 3, 0, 0): 20
            extract(2): 6
            difference(2, 3): 7
            """;
    private static final String CORNERS = "corners 20 20 220 20\n";
    private static final String STATE = BEFORE + CORNERS;
    private static final String[] WRONG_FEATURES = {"0, 1, 0, 0, 0", "10000, 1, 0, 0, 0", "MIN, 1, 0, 0, 0", "7, -1, 0, 0, 0",
        "7, 3, 0, 0, 0", "7, 1, -1, 0, 0", "7, 1, 10, 0, 0", "7, 1, 0, -1, 0", "7, 1, 0, 5, 0", "7, 1, 0, 0, 1",
        "7, 1, 0, 0, LEAST", "7, 0, 0, 0, 0", "7, 2, 0, 0, 0", "6, 0, 0, 0, 0", "6, 1, 0, MAX, 0"};

    private static final Map<String, List<String>> PROBES = new TreeMap<>();

    private RefusedTest() {}

    public static void main(String[] args) {
        makeProbes();
        everyProbeTells();
        refusedCalls();
        refusedFeatures();
        refusedByTheState();
        askingChangesNothing();
        whatCallsChange();
        Check.end();
    }

    private static void makeProbes() {
        PROBES.put("corners", List.of("feature(900, 1, 0, 0, 0)", "tile(0, 4, 0, 0)", "octets"));
        PROBES.put("features", List.of("tile(0, 4, 0, 0)", "octets", "tile(0, 3, 2, 2)", "octets", "drop(1)", "drop(2)",
                "drop(3)", "drop(4)", "drop(5)", "drop(6)", "drop(7)", "drop(900)"));
        PROBES.put("editions", List.of("tile(1, 3, 0, 0)", "tile(2, 3, 0, 0)", "octets", "tile(3, 3, 0, 0)", "octets",
                "tile(4, 3, 0, 0)", "edition()"));
        PROBES.put("tile in hand", List.of("octets"));
        PROBES.put("region", List.of("extract(3)", "pack(0)", "pack(1)", "pack(4)", "packed(0, 0)", "packed(9, 2)"));
        PROBES.put("pack", List.of("packs", "lookUp(0, 0)", "lookUp(0, 1)", "lookUp(0, 2)", "lookUp(0, 3)",
                "lookUp('ab', 0)", "lookUp('ab', 1)", "near(0, 0, 4, 0)", "near(0, 0, 4, 1)", "near(0, 0, 0, 0)",
                "take(3, 0, 0)", "octets", "take(3, 2, 2)", "octets"));
        PROBES.put("difference", List.of("differences"));
        PROBES.put("apply", List.of("apply()", "packs", "lookUp('ab', 0)", "lookUp('ab', 1)", "take(3, 3, 3)", "octets"));
    }

    private static String answers(Script script, String probe) {
        switch (probe) {
            case "octets":
                return many(script, "octet(", ")", 40);
            case "packs":
                return many(script, "pack(", ")", 5) + many(script, "packed(", ", 0)", 20) + many(script, "packed(", ", 1)", 20)
                        + many(script, "packed(", ", 2)", 20) + many(script, "packed(", ", 3)", 20)
                        + many(script, "packed(", ", 4)", 20);
            case "differences":
                return many(script, "differs(", ", 0)", 20) + many(script, "differs(", ", 1)", 20)
                        + many(script, "differs(", ", 2)", 20) + many(script, "differs(", ", 3)", 20)
                        + many(script, "differs(", ", 4)", 20);
            default:
                return script.answer(probe);
        }
    }

    private static String many(Script script, String before, String behind, int count) {
        StringBuilder all = new StringBuilder();
        for (int i = 0; i < count; i++) {
            all.append(" ").append(script.answer(before + i + behind));
        }
        return all.toString();
    }

    private static String look(String calls, String name) {
        Script script = Script.run(calls);
        StringBuilder all = new StringBuilder();
        for (String probe : PROBES.get(name)) {
            all.append(probe).append(": ").append(answers(script, probe)).append("; ");
        }
        return all.toString();
    }

    /** The probes that tell two runs of calls apart. */
    private static Set<String> toldApart(String calls, String others) {
        Set<String> names = new TreeSet<>();
        for (String name : PROBES.keySet()) {
            if (!look(calls, name).equals(look(others, name))) {
                names.add(name);
            }
        }
        return names;
    }

    private static void changes(String calls, String call, String... names) {
        Check.due("what is changed by " + call, toldApart(calls, calls + call + "\n"), Set.of(names));
    }

    /** A probe that sees nothing would find nothing changed. */
    private static void everyProbeTells() {
        Check.sentence("the state before: each part of it can be seen");
        String[][] due = {{"corners", "corner(30, 90)"}, {"features", "drop(2)"}, {"editions", "edition()"},
            {"tile in hand", "tile(0, 0, 0, 0)"}, {"region", "region(0, 0, 9, 9, 3)"}, {"pack", "extract(3)"},
            {"difference", "difference(2, 0)"}, {"apply", "difference(2, 0)"}};
        for (String[] v : due) {
            Check.due(v[0] + " behind " + v[1], toldApart(STATE, STATE + v[1] + "\n").contains(v[0]), true);
        }
    }

    private static void refusedCalls() {
        Check.sentence("nothing is changed then");
        String[] refused = {
            "tile(1, 0, 0, 0): IndexOutOfBounds", "tile(4, 0, 0, 0): IndexOutOfBounds", "tile(-1, 0, 0, 0): IndexOutOfBounds",
            "tile(0, -1, 0, 0): IndexOutOfBounds", "tile(0, 5, 0, 0): IndexOutOfBounds", "tile(0, 2, 4, 0): IndexOutOfBounds",
            "tile(0, 2, 0, 4): IndexOutOfBounds", "tile(0, 2, -1, 0): IndexOutOfBounds", "tile(MAX, MIN, MAX, MIN): IndexOutOfBounds",
            "region(-1, 0, 9, 9, 3): IllegalArgument", "region(0, 0, 4096, 9, 3): IllegalArgument",
            "region(9, 0, 8, 9, 3): IllegalArgument", "region(0, 9, 9, 8, 3): IllegalArgument",
            "region(0, 0, 9, 9, -1): IllegalArgument", "region(0, 0, 9, 9, 5): IllegalArgument",
            "region(MIN, MIN, MAX, MAX, MIN): IllegalArgument",
            "extract(1): IndexOutOfBounds", "extract(4): IndexOutOfBounds", "extract(-1): IndexOutOfBounds",
            "extract(MIN): IndexOutOfBounds", "extract(MAX): IndexOutOfBounds",
            "difference(1, 0): IndexOutOfBounds", "difference(0, 1): IndexOutOfBounds", "difference(4, 4): IndexOutOfBounds",
            "difference(0, MAX): IndexOutOfBounds", "difference(MIN, 0): IndexOutOfBounds",
            "lookUp('x', 0): NoSuchElement", "lookUp(0, -1): NoSuchElement", "lookUp(LEAST, MIN): NoSuchElement",
            "lookUp(MOST, MAX): NoSuchElement", "near(0, 0, 4, 2): NoSuchElement", "near(0, 0, 10, 0): NoSuchElement",
            "near(MIN, MIN, MIN, MIN): NoSuchElement", "near(MAX, MAX, MAX, MAX): NoSuchElement"};
        for (String call : refused) {
            changes(STATE, call);
        }
        Check.sentence("a corner that is not taken, a feature that is not there, an answer of NONE");
        String[] none = {"corner(-1, 0): false", "corner(0, 4096): false", "corner(MIN, MAX): false", "drop(1): false",
            "drop(7): false", "drop(0): false", "drop(MIN): false", "octet(-1): NONE", "octet(20): NONE", "octet(MAX): NONE",
            "packed(-1, 0): NONE", "packed(6, 0): NONE", "packed(0, 5): NONE", "packed(MIN, MIN): NONE", "pack(5): NONE",
            "pack(-1): NONE", "pack(MAX): NONE", "differs(-1, 0): NONE", "differs(7, 0): NONE", "differs(0, 5): NONE",
            "differs(MAX, MAX): NONE"};
        for (String call : none) {
            changes(STATE, call);
        }
        // A 13th corner; the twelve are a line that is told apart from one of eleven.
        String twelve = STATE + "corners 220 60 20 60 20 100 220 100 220 140 20 140 20 180 220 180 220 220 20 220\n";
        changes(twelve, "corner(60, 240): false");
        changes(twelve, "corner(20, 220): false");
    }

    private static void refusedFeatures() {
        Check.sentence("nothing is changed then, but the corners told, which are used up in any case");
        for (String arguments : WRONG_FEATURES) {
            String call = "feature(" + arguments + "): IllegalArgument";
            changes(STATE, call, "corners");
            Check.due("what is told apart from a state without corners behind " + call,
                    toldApart(BEFORE, STATE + call + "\n"), Set.of());
        }
        StringBuilder full = new StringBuilder(BEFORE);
        for (int number = 10; number < 29; number++) {
            full.append("put ").append(number).append(" 0 0 at ").append(number).append(" 0\n");
        }
        String call = "feature(29, 1, 0, 0, 0): IllegalState";
        Check.due("what is told apart from a state without corners behind " + call,
                toldApart(full.toString(), full + CORNERS + call + "\n"), Set.of());
    }

    private static void refusedByTheState() {
        Check.sentence("nothing is changed then: without a region, a pack, a difference");
        changes("", "extract(0): IllegalState");
        changes("", "difference(0, 0): IllegalState");
        changes("", "apply(): IllegalState");
        changes("", "lookUp(0, 0): NoSuchElement");
        changes("", "near(0, 0, 0, 0): NoSuchElement");
        changes("", "octet(0): NONE");
        changes("", "take(0, 0, 0): 0");
        changes("put 1 0 0 at 5 5\nedition(): 1\ncorners 9 9 80 80\ntile(0, 4, 0, 0)\n", "extract(1): IllegalState");
        changes("put 1 0 0 at 5 5\nregion(0, 0, 9, 9, 3): done\nextract(0)\n", "apply(): IllegalState");
        changes("put 1 0 0 at 5 5\nregion(0, 0, 9, 9, 3): done\ndifference(0, 0)\n", "apply(): IllegalState");
        Check.sentence("nothing is changed then: the pack is of another region, or has other tiles");
        changes(STATE + "extract(3)\n", "apply(): IllegalState");
        changes(STATE + "apply()\n", "apply(): IllegalState");
        changes(STATE + "region(0, 0, 2047, 2046, 3): done\ndifference(2, 3)\n", "apply(): IllegalState");
        Check.sentence("nothing is changed then: a pack is refused by its tiles, or by its bytes");
        String whole = BEFORE + "region(0, 0, 4095, 4095, 4): done\nextract(2)\ndifference(2, 3)\n";
        StringBuilder manyBytes = new StringBuilder(whole);
        for (int n = 10; n < 28; n++) {
            manyBytes.append("put ").append(n).append(" 1 4 at 0 ").append(230 + n).append(" 4095 ").append(280 - n).append("\n");
        }
        String manyTiles = whole + "put 6 2 0 at 0 0 4095 0 4095 4095 0 4095\n";
        for (String state : new String[] {manyBytes + CORNERS, manyTiles + CORNERS}) {
            changes(state, "extract(0): IllegalState");
            changes(state, "difference(0, 2): IllegalState");
            changes(state, "difference(2, 0): IllegalState");
            changes(state, "difference(0, 0): IllegalState");
        }
    }

    private static void askingChangesNothing() {
        Check.sentence("a call that answers of what is in hand changes nothing");
        String[] asking = {"octet(0)", "octet(19)", "packed(0, 0)", "packed(5, 4)", "pack(0)", "pack(4)", "differs(0, 0)",
            "differs(6, 4)", "lookUp(0, 0): 1", "lookUp('abc', 0): 3", "near(0, 0, 4, 0): 3"};
        for (String call : asking) {
            changes(STATE, call);
        }
        for (int kind = 0; kind < 3; kind++) {
            changes("", "octet(" + kind + ")\npack(" + kind + ")\npacked(0, " + kind + ")\ndiffers(0, " + kind + ")");
        }
    }

    private static void whatCallsChange() {
        Check.sentence("a call changes what the document says, and nothing else");
        changes(STATE, "corner(30, 90): true", "corners");
        changes(STATE, "feature(7, 1, 0, 0, 0): 6", "corners", "features");
        changes(STATE, "drop(2): true", "corners", "features");
        changes(STATE, "edition(): 4", "editions");
        changes(STATE, "tile(0, 2, 0, 0)", "tile in hand");
        changes(STATE, "tile(0, 4, 15, 15): 0", "tile in hand");
        changes(STATE, "take(3, 2, 2)", "tile in hand");
        changes(STATE, "take(4, 0, 0): 0", "tile in hand");
        changes(STATE, "region(0, 0, 2047, 2047, 2): done", "region", "difference", "apply");
        changes(STATE, "region(0, 0, 2047, 2047, 3): done", "difference", "apply");
        changes(STATE, "extract(2): 6");
        changes(STATE, "extract(3)", "pack", "apply");
        changes(STATE, "difference(2, 3): 7");
        changes(STATE, "difference(2, 0)", "difference", "apply");
        changes(STATE, "difference(3, 2)", "difference", "apply");
        changes(STATE, "apply()", "pack", "apply");
    }
}
