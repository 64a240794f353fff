import java.io.IOException;
import java.lang.reflect.Method;
import java.lang.reflect.Modifier;
import java.nio.file.Files;
import java.nio.file.Path;
import java.util.List;
import java.util.Map;
import java.util.TreeMap;
import java.util.TreeSet;
import java.util.regex.Matcher;
import java.util.regex.Pattern;
import java.util.stream.Collectors;
import java.util.stream.Stream;
import javax.tools.ToolProvider;

/** What README.md shows: its Java compiles, its calls answer as told, its lists are whole. */
public final class ReadmeTest {
    private static final Pattern CALL = Pattern.compile(
            "(?:int (\\w+) = )?desk\\.(\\w+)\\((.*?)\\);(?:\\s+// (throws )?([\\w-]+)(?: bytes: ([\\d ]+))?.*)?");
    private static final String NEW_OBJECT = "AtlasDesk desk = new AtlasDesk();";

    private static final Map<String, String> named = new TreeMap<>();
    private static final TreeSet<String> shown = new TreeSet<>();
    private static Script script;

    private ReadmeTest() {}

    public static void main(String[] args) throws IOException {
        List<String> text = Files.readAllLines(Path.of("README.md"));
        List<String> java = blocks(text, "```java");
        compiles(java);
        for (String line : java) {
            obey(line.trim());
        }
        Check.due("the calls that are shown", shown, face());
        calls(text);
        tests(String.join("\n", text));
        Check.due("NONE is told", words(String.join(" ", text), "AtlasDesk.NONE` is [-\\d]+"), "AtlasDesk.NONE` is " + AtlasDesk.NONE);
        Check.end();
    }

    private static List<String> blocks(List<String> text, String fence) {
        boolean[] within = {false};
        return text.stream().filter(line -> {
            boolean was = within[0];
            within[0] = was ? !line.equals("```") : line.equals(fence);
            return was && within[0];
        }).collect(Collectors.toList());
    }

    private static void compiles(List<String> java) throws IOException {
        Path folder = Files.createTempDirectory("readme");
        Path source = folder.resolve("Readme.java");
        Files.writeString(source, "final class Readme { void run() {\n" + String.join("\n", java) + "\n} }\n");
        int code = ToolProvider.getSystemJavaCompiler().run(null, null, null,
                "-proc:none", "-cp", System.getProperty("java.class.path"), "-d", folder.toString(), source.toString());
        Check.due("compiling the Java of README.md", code, 0);
        for (String file : List.of("Readme.class", "Readme.java", "")) {
            Files.deleteIfExists(folder.resolve(file));
        }
    }

    private static void obey(String line) {
        Matcher call = CALL.matcher(line);
        if (line.equals(NEW_OBJECT)) {
            script = new Script();
        } else if (call.matches()) {
            answer(line, call);
        } else {
            Check.due("a line of README.md: " + line, line, "");
        }
    }

    private static void answer(String line, Matcher call) {
        shown.add(call.group(2));
        String made = call.group(2) + "(" + arguments(call.group(3)) + ")";
        String told = call.group(5);
        if (told == null) {
            Check.due(line + " without an answer", call.group(2), "region");
            told = "done";
        }
        String due = call.group(4) == null ? told : told.replaceFirst("Exception$", "");
        if (call.group(6) == null) {
            script.then(made + ": " + due);
        } else {
            Check.due("bytes that are told and shown by " + line, call.group(6).split(" ").length + "", told);
            script.then(made + " has " + call.group(6));
        }
        if (call.group(1) != null) {
            named.put(call.group(1), told);
        }
    }

    private static String arguments(String written) {
        return Stream.of(written.split(", "))
                .map(v -> named.getOrDefault(v, v).replaceFirst("L$", ""))
                .collect(Collectors.joining(", "));
    }

    private static TreeSet<String> face() {
        return publicMethods().map(Method::getName).collect(Collectors.toCollection(TreeSet::new));
    }

    private static Stream<Method> publicMethods() {
        return Stream.of(AtlasDesk.class.getDeclaredMethods()).filter(m -> Modifier.isPublic(m.getModifiers()));
    }

    /** Each method has one row in the table, with as many arguments and with its exceptions. */
    private static void calls(List<String> text) {
        publicMethods().forEach(method -> {
            List<String> rows = text.stream()
                    .filter(line -> line.startsWith("| `" + method.getName() + "("))
                    .collect(Collectors.toList());
            Check.due("rows of " + method.getName(), rows.size(), 1);
            String row = rows.isEmpty() ? "()" : rows.get(0);
            String arguments = row.substring(row.indexOf('(') + 1, row.indexOf(')'));
            int count = arguments.isEmpty() ? 0 : arguments.split(", ").length;
            Check.due("arguments of " + method.getName(), count, method.getParameterCount());
            String thrown = Stream.of(method.getExceptionTypes()).map(Class::getSimpleName).collect(Collectors.joining(" "));
            Check.due("exceptions of " + method.getName(), words(row, "\\w+Exception"), thrown);
        });
    }

    /** Each test of the project is told, and none that is not there. */
    private static void tests(String text) throws IOException {
        TreeSet<String> told = new TreeSet<>(List.of(words(text, "`(\\w+Test)`").replace("`", "").split(" ")));
        try (Stream<Path> files = Files.list(Path.of("src/test/java"))) {
            TreeSet<String> there = files.map(file -> file.getFileName().toString())
                    .filter(name -> name.endsWith("Test.java"))
                    .map(name -> name.replace(".java", ""))
                    .collect(Collectors.toCollection(TreeSet::new));
            Check.due("the tests that are told", told, there);
        }
    }

    private static String words(String text, String pattern) {
        return Pattern.compile(pattern).matcher(text).results().map(r -> r.group()).collect(Collectors.joining(" "));
    }
}
