import java.io.IOException;
import java.lang.reflect.Constructor;
import java.lang.reflect.Executable;
import java.lang.reflect.Field;
import java.lang.reflect.Method;
import java.lang.reflect.Modifier;
import java.nio.file.Files;
import java.nio.file.Path;
import java.util.ArrayDeque;
import java.util.ArrayList;
import java.util.List;
import java.util.Map;
import java.util.Set;
import java.util.TreeMap;
import java.util.TreeSet;
import java.util.regex.Matcher;
import java.util.regex.Pattern;

/** The face of the class, and the rules of LANGUAGE.md that can be read off the class or its text. */
public final class LanguageTest {
    private static final String[] FACE = {
        "boolean corner(int, int) []",
        "int feature(int, int, int, int, long) [IllegalArgumentException, IllegalStateException]",
        "boolean drop(int) []",
        "int edition() []",
        "int tile(int, int, int, int) [IndexOutOfBoundsException]",
        "int octet(int) []",
        "void region(int, int, int, int, int) [IllegalArgumentException]",
        "int extract(int) [IndexOutOfBoundsException, IllegalStateException]",
        "int packed(int, int) []",
        "int take(int, int, int) []",
        "int pack(int) []",
        "int difference(int, int) [IndexOutOfBoundsException, IllegalStateException]",
        "int differs(int, int) []",
        "int apply() [IllegalStateException]",
        "int lookUp(long, int) [NoSuchElementException]",
        "int near(int, int, int, int) [NoSuchElementException]",
    };
    private static final String[] RULED_OUT = {
        "^(?!.*\\b(case|default)\\b).*->", "::", "\\bsynchronized\\b", "\\bassert\\b", "\\bfinally\\b", "\\bprotected\\b", "Exact\\(",
        "^package", "static \\{", "import (?!java\\.util\\.)", "\\bSystem\\.(?!arraycopy)",
        "Math\\.(sqrt|pow|random|hypot|floor\\(|ceil|round|exp|log|sin|cos)", "Arrays\\.(?!copyOf|fill)", "\\bRandom\\b",
        "\\bThread\\b",
    };

    private LanguageTest() {}

    public static void main(String[] args) throws IOException {
        face();
        hidden();
        sizes();
        text(Files.readString(Path.of("src/main/java/AtlasDesk.java")));
        Check.end();
    }

    private static void face() {
        Map<String, String> thrown = new TreeMap<>();
        for (String line : FACE) {
            thrown.put(line.substring(0, line.indexOf(" [")), line.substring(line.indexOf(" [")));
        }
        Set<String> face = new TreeSet<>();
        for (Method method : AtlasDesk.class.getDeclaredMethods()) {
            if (Modifier.isPublic(method.getModifiers())) {
                String line = method.getReturnType() + " " + method.getName() + "(" + names(method.getParameterTypes()) + ")";
                face.add(line);
                for (Class<?> exception : method.getExceptionTypes()) {
                    boolean told = thrown.getOrDefault(line, "").contains(exception.getSimpleName());
                    Check.due(line + " may throw " + exception.getSimpleName(), told, true);
                }
            }
        }
        Check.due("the public methods", face, thrown.keySet());
        Constructor<?>[] constructors = AtlasDesk.class.getDeclaredConstructors();
        Check.due("the constructors", constructors.length, 1);
        Check.due("the constructor's parameters", constructors[0].getParameterCount(), 0);
        Check.due("the class", Modifier.toString(AtlasDesk.class.getModifiers()), "public final");
    }

    private static String names(Class<?>[] types) {
        List<String> names = new ArrayList<>();
        for (Class<?> type : types) {
            names.add(type.getSimpleName());
        }
        return String.join(", ", names);
    }

    private static void hidden() {
        Set<String> names = new TreeSet<>();
        for (String method : FACE) {
            names.add(method.replaceAll("^\\w+ (\\w+)\\(.*", "$1"));
        }
        for (Class<?> type : types()) {
            for (Method method : type.getDeclaredMethods()) {
                boolean hidden = Modifier.isPrivate(method.getModifiers());
                Check.due(type.getSimpleName() + "." + method.getName() + " is private and has a name of the face",
                        hidden && names.contains(method.getName()), false);
            }
            for (Field field : type.getDeclaredFields()) {
                int is = field.getModifiers();
                Check.due(field + " is static and not final", Modifier.isStatic(is) && !Modifier.isFinal(is), false);
                boolean seen = type == AtlasDesk.class && !Modifier.isPrivate(is);
                Check.due(field + " is seen", seen && !field.getName().equals("NONE"), false);
            }
        }
        for (Class<?> inside : AtlasDesk.class.getDeclaredClasses()) {
            Check.due(inside + " is static", Modifier.isStatic(inside.getModifiers()), true);
        }
    }

    private static List<Class<?>> types() {
        List<Class<?>> types = new ArrayList<>(List.of(AtlasDesk.class.getDeclaredClasses()));
        types.add(AtlasDesk.class);
        return types;
    }

    private static void sizes() {
        Check.due("at most 12 classes", types().size() <= 12, true);
        for (Class<?> type : types()) {
            int fields = 0;
            for (Field field : type.getDeclaredFields()) {
                fields += Modifier.isStatic(field.getModifiers()) ? 0 : 1;
            }
            Check.due(type.getSimpleName() + " has at most 20 fields", fields <= 20, true);
            for (Executable method : type.getDeclaredMethods()) {
                Check.due(method + " has at most 7 parameters", method.getParameterCount() <= 7, true);
            }
        }
    }

    private static void text(String source) {
        String code = source.replaceAll("(?s)/\\*.*?\\*/", "").replaceAll("//[^\n]*", "").replaceAll("\"[^\"\n]*\"", "\"\"");
        for (String pattern : RULED_OUT) {
            Matcher found = Pattern.compile(pattern, Pattern.MULTILINE).matcher(code);
            Check.due("what " + pattern + " finds", found.find() ? found.group() : "nothing", "nothing");
        }
        Matcher thrown = Pattern.compile("\\bthrow\\b(?!\\s+new\\s+(IllegalArgument|IllegalState|IndexOutOfBounds|NoSuchElement"
                + "|Arithmetic|UnsupportedOperation|Runtime)Exception\\s*\\((\"\")?\\))").matcher(code);
        Check.due("throws of another form", thrown.find(), false);
        methods(code);
    }

    /** A brace opens a class, or, right inside of one and behind a bracket, a method. */
    private static void methods(String code) {
        ArrayDeque<String> open = new ArrayDeque<>();
        ArrayDeque<Integer> starts = new ArrayDeque<>();
        StringBuilder head = new StringBuilder();
        int line = 1;
        for (char c : code.toCharArray()) {
            line += c == '\n' ? 1 : 0;
            if (c == '{') {
                boolean ofClass = "class".equals(open.peek());
                boolean isClass = Pattern.compile("\\b(class|record|enum|interface)\\b").matcher(head).find();
                open.push(isClass ? "class" : ofClass && head.indexOf("(") >= 0 ? head.toString().trim() : "block");
                starts.push(line);
            }
            if (c == '}') {
                int lines = line - starts.pop();
                String method = open.pop();
                boolean tooLong = !method.equals("class") && lines > 60;
                Check.due(method + " has at most 60 lines", tooLong, false);
            }
            head.append(c);
            if (c == '{' || c == '}' || c == ';') {
                head.setLength(0);
            }
        }
        Check.due("every brace is closed", open.isEmpty(), true);
    }
}
