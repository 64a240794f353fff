import java.io.IOException;
import java.lang.reflect.Constructor;
import java.lang.reflect.Executable;
import java.lang.reflect.Field;
import java.lang.reflect.Method;
import java.lang.reflect.Modifier;
import java.nio.file.Files;
import java.nio.file.Path;
import java.util.ArrayList;
import java.util.List;
import java.util.Set;
import java.util.TreeSet;
import java.util.regex.Matcher;
import java.util.regex.Pattern;

/** The face of the class, and the rules of LANGUAGE.md that can be read off the class or its text. */
public final class LanguageTest {
    private static final String[] FACE = {
        "boolean corner(int, int) []",
        "int feature(int, int, int, int, long) [IllegalArgumentException, IllegalStateException]",
        "boolean drop(int) []",
        "int edition() []",
        "int tile(int, int, int, int) [IndexOutOfBoundsException]",
        "int octet(int) []",
        "void region(int, int, int, int, int) [IllegalArgumentException]",
        "int extract(int) [IndexOutOfBoundsException, IllegalStateException]",
        "int packed(int, int) []",
        "int take(int, int, int) []",
        "int pack(int) []",
        "int difference(int, int) [IndexOutOfBoundsException, IllegalStateException]",
        "int differs(int, int) []",
        "int apply() [IllegalStateException]",
        "int lookUp(long, int) [NoSuchElementException]",
        "int near(int, int, int, int) [NoSuchElementException]",
    };
    private static final String[] RULED_OUT = {
        "->", "::", "\\bsynchronized\\b", "\\bassert\\b", "\\bfinally\\b", "\\bprotected\\b", "Exact\\(",
        "^package", "static \\{", "import (?!java\\.util\\.)", "\\bSystem\\.(?!arraycopy)",
        "Math\\.(?!min|max|abs|floorDiv|floorMod)", "Arrays\\.(?!copyOf|fill)", "\\bRandom\\b", "\\bThread\\b",
    };

    private LanguageTest() {}

    public static void main(String[] args) throws IOException {
        face();
        hidden();
        sizes();
        text(Files.readString(Path.of("src/main/java/AtlasDesk.java")));
        Check.end();
    }

    private static void face() {
        Set<String> face = new TreeSet<>();
        for (Method method : AtlasDesk.class.getDeclaredMethods()) {
            if (Modifier.isPublic(method.getModifiers())) {
                face.add(method.getReturnType() + " " + method.getName() + "(" + names(method.getParameterTypes()) + ") ["
                        + names(method.getExceptionTypes()) + "]");
            }
        }
        Check.due("the public methods", face, new TreeSet<>(List.of(FACE)));
        Constructor<?>[] constructors = AtlasDesk.class.getDeclaredConstructors();
        Check.due("the constructors", constructors.length, 1);
        Check.due("the constructor's parameters", constructors[0].getParameterCount(), 0);
        Check.due("the class", Modifier.toString(AtlasDesk.class.getModifiers()), "public final");
    }

    private static String names(Class<?>[] types) {
        List<String> names = new ArrayList<>();
        for (Class<?> type : types) {
            names.add(type.getSimpleName());
        }
        return String.join(", ", names);
    }

    private static void hidden() {
        Set<String> names = new TreeSet<>();
        for (String method : FACE) {
            names.add(method.replaceAll("^\\w+ (\\w+)\\(.*", "$1"));
        }
        for (Class<?> type : types()) {
            for (Method method : type.getDeclaredMethods()) {
                boolean ofFace = type == AtlasDesk.class && Modifier.isPublic(method.getModifiers());
                Check.due(type.getSimpleName() + "." + method.getName() + " with a name of the face",
                        !ofFace && names.contains(method.getName()), false);
            }
            for (Field field : type.getDeclaredFields()) {
                int is = field.getModifiers();
                Check.due(field + " is static and not final", Modifier.isStatic(is) && !Modifier.isFinal(is), false);
                boolean seen = type == AtlasDesk.class && !Modifier.isPrivate(is);
                Check.due(field + " is seen", seen && !field.getName().equals("NONE"), false);
            }
        }
        for (Class<?> inside : AtlasDesk.class.getDeclaredClasses()) {
            Check.due(inside + " is static", Modifier.isStatic(inside.getModifiers()), true);
        }
    }

    private static List<Class<?>> types() {
        List<Class<?>> types = new ArrayList<>(List.of(AtlasDesk.class.getDeclaredClasses()));
        types.add(AtlasDesk.class);
        return types;
    }

    private static void sizes() {
        Check.due("at most 12 classes", types().size() <= 12, true);
        for (Class<?> type : types()) {
            int fields = 0;
            for (Field field : type.getDeclaredFields()) {
                fields += Modifier.isStatic(field.getModifiers()) ? 0 : 1;
            }
            Check.due(type.getSimpleName() + " has at most 20 fields", fields <= 20, true);
            for (Executable method : type.getDeclaredMethods()) {
                Check.due(method + " has at most 7 parameters", method.getParameterCount() <= 7, true);
            }
        }
    }

    private static void text(String source) {
        String code = source.replaceAll("(?s)/\\*.*?\\*/", "").replaceAll("//[^\n]*", "").replaceAll("\"[^\"\n]*\"", "\"\"");
        for (String pattern : RULED_OUT) {
            Matcher found = Pattern.compile(pattern, Pattern.MULTILINE).matcher(code);
            Check.due("what " + pattern + " finds", found.find() ? found.group() : "nothing", "nothing");
        }
        Matcher thrown = Pattern.compile("throw (?!new (IllegalArgument|IllegalState|IndexOutOfBounds|NoSuchElement)"
                + "(Exception)\\(\"\"\\);)").matcher(code);
        Check.due("throws of another form", thrown.find(), false);
        methods(code);
    }

    /** A method begins with a line that ends in ") {" or in a throws clause, four or eight in. */
    private static void methods(String code) {
        String[] lines = code.split("\n");
        int start = -1;
        String close = "";
        for (int i = 0; i < lines.length; i++) {
            Matcher head = Pattern.compile("^( {4}| {8})\\w[^=;]*\\(.*").matcher(lines[i]);
            if (start < 0 && head.matches()) {
                start = i;
                close = head.group(1) + "}";
            }
            if (start >= 0 && lines[i].equals(close)) {
                Check.due(lines[start].trim() + " has at most 60 lines", i - start < 60, true);
                start = -1;
            }
        }
        Check.due("every method was seen to end", start, -1);
    }
}
