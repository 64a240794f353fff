import java.util.ArrayList;
import java.util.List;

/**
 * Calls of one new object as lines of text, each with the answer that is due:
 *
 * <pre>
 * corner(4096, 0): false
 * feature(1, 0, 0, 0, 'abc'): IllegalArgument     the exception's name without its end
 * region(0, 0, 9, 9, 4): done
 * tile(0, 4, 0, 0) has 1 0 1 1 10 10              the answer, each octet, and no octet behind
 * corners 5 5 9 9                                 corner(5, 5) and corner(9, 9), both true
 * put 7 1 4 at 5 5 9 9                            these, and feature(7, 1, 0, 4, 0), not refused
 * edition()                                       whatever it answers
 * </pre>
 *
 * A number may be written as in Java, as MIN, MAX (of int), LEAST, MOST (of long), or as a name.
 */
final class Script {
    private final Desk desk = new Desk();

    static Script run(String lines) {
        return new Script().then(lines);
    }

    Script then(String lines) {
        for (String line : lines.split("\n")) {
            if (!line.isBlank()) {
                obey(line.trim());
            }
        }
        return this;
    }

    private void obey(String line) {
        if (line.startsWith("corners ")) {
            corners(line.substring(8));
        } else if (line.startsWith("put ")) {
            put(line);
        } else if (line.contains(") has ")) {
            bytes(line.substring(0, line.indexOf(" has ")), line.substring(line.indexOf(" has ") + 5));
        } else if (line.contains("): ")) {
            due(line.substring(0, line.lastIndexOf("): ") + 1), line.substring(line.lastIndexOf("): ") + 3).trim());
        } else {
            answer(line);
        }
    }

    private void corners(String numbers) {
        String[] v = numbers.trim().split(" +");
        for (int i = 0; i < v.length; i += 2) {
            due("corner(" + v[i] + ", " + v[i + 1] + ")", "true");
        }
    }

    private void put(String line) {
        String[] parts = line.split(" at ");
        String[] v = parts[0].split(" +");
        corners(parts[1]);
        String call = "feature(" + v[1] + ", " + v[2] + ", 0, " + v[3] + ", 0)";
        String got = answer(call);
        Check.due(call + " is taken", got.matches("\\d+") ? "taken" : got, "taken");
    }

    private void bytes(String call, String wanted) {
        String[] v = wanted.trim().equals("nothing") ? new String[0] : wanted.trim().split(" +");
        due(call, Integer.toString(v.length));
        for (int i = 0; i < v.length; i++) {
            Check.due("octet(" + i + ") behind " + call, answer("octet(" + i + ")"), v[i]);
        }
        Check.due("octet(" + v.length + ") behind " + call, answer("octet(" + v.length + ")"), "-1");
    }

    private void due(String call, String wanted) {
        Check.due(call, answer(call), wanted.equals("NONE") ? "-1" : wanted);
    }

    int callsLeft() {
        return desk.callsLeft();
    }

    String answer(String call) {
        String name = call.substring(0, call.indexOf('('));
        List<Long> list = new ArrayList<>();
        for (String argument : call.substring(call.indexOf('(') + 1, call.lastIndexOf(')')).split(",")) {
            if (!argument.isBlank()) {
                list.add(number(argument.trim()));
            }
        }
        long[] v = list.stream().mapToLong(Long::longValue).toArray();
        try {
            return answer(name, v);
        } catch (RuntimeException e) {
            return e.getClass().getSimpleName().replaceFirst("Exception$", "");
        }
    }

    private static long number(String text) {
        switch (text) {
            case "MIN":
                return Integer.MIN_VALUE;
            case "MAX":
                return Integer.MAX_VALUE;
            case "LEAST":
                return Long.MIN_VALUE;
            case "MOST":
                return Long.MAX_VALUE;
            default:
                break;
        }
        if (text.startsWith("'")) {
            long word = 0;
            for (char letter : text.substring(1, text.length() - 1).toCharArray()) {
                word = word << 8 | letter;
            }
            return word;
        }
        return text.startsWith("0x") ? Long.parseUnsignedLong(text.substring(2), 16) : Long.parseLong(text);
    }

    private String answer(String name, long[] v) {
        switch (name) {
            case "corner":
                return Boolean.toString(desk.corner((int) v[0], (int) v[1]));
            case "drop":
                return Boolean.toString(desk.drop((int) v[0]));
            case "region":
                desk.region((int) v[0], (int) v[1], (int) v[2], (int) v[3], (int) v[4]);
                return "done";
            default:
                return Integer.toString(answerOf(name, v));
        }
    }

    private int answerOf(String name, long[] v) {
        switch (name) {
            case "feature":
                return desk.feature((int) v[0], (int) v[1], (int) v[2], (int) v[3], v[4]);
            case "edition":
                return desk.edition();
            case "tile":
                return desk.tile((int) v[0], (int) v[1], (int) v[2], (int) v[3]);
            case "octet":
                return desk.octet((int) v[0]);
            case "extract":
                return desk.extract((int) v[0]);
            case "packed":
                return desk.packed((int) v[0], (int) v[1]);
            case "take":
                return desk.take((int) v[0], (int) v[1], (int) v[2]);
            case "pack":
                return desk.pack((int) v[0]);
            case "difference":
                return desk.difference((int) v[0], (int) v[1]);
            case "differs":
                return desk.differs((int) v[0], (int) v[1]);
            case "apply":
                return desk.apply();
            case "lookUp":
                return desk.lookUp(v[0], (int) v[1]);
            case "near":
                return desk.near((int) v[0], (int) v[1], (int) v[2], (int) v[3]);
            default:
                throw new AssertionError("no such call: " + name);
        }
    }
}
