import java.io.IOException;
import java.lang.reflect.Field;
import java.lang.reflect.Method;
import java.lang.reflect.Modifier;
import java.nio.file.Files;
import java.nio.file.Path;
import java.util.ArrayList;
import java.util.HashSet;
import java.util.List;
import java.util.Set;
import java.util.regex.Matcher;
import java.util.regex.Pattern;

/** The rules of ../shared/LANGUAGE.md that can be seen in the class's text and members; the numbers are theirs. */
public final class LanguageTest {
    private static final Path SOURCE = Path.of("src", "main", "java", "FeederOrders.java");
    private static final Set<String> LIBRARY = Set.of("Math.max", "Math.min", "Math.abs", "Integer.bitCount",
            "Arrays.fill", "System.arraycopy");
    private static final int MOST_PARAMETERS = 7;
    private static final int MOST_LINES = 60;
    private static final int MOST_CLASSES = 12;
    private static final int MOST_FIELDS = 20;

    private static final Due due = new Due();

    private LanguageTest() { }

    public static void main(String[] args) throws IOException {
        String whole = Files.readString(SOURCE);
        String code = whole.replaceAll("(?s)/\\*.*?\\*/|//[^\\n]*", "").replaceAll("\"[^\"\\n]*\"", "\"\"");
        due.is("characters beyond a text's: ", whole.matches("(?s)[\\n -~]*"), true);
        for (Class<?> each : classes()) {
            members(each);
        }
        due.is("rule 11: at most twelve classes", classes().size() <= MOST_CLASSES, true);
        words(code);
        library(code);
        exceptions(code);
        objects(code);
        lengths(code);
        due.end();
    }

    private static List<Class<?>> classes() {
        List<Class<?>> all = new ArrayList<>();
        all.add(FeederOrders.class);
        all.addAll(List.of(FeederOrders.class.getDeclaredClasses()));
        return all;
    }

    private static void members(Class<?> owner) {
        if (owner != FeederOrders.class) {
            due.is("rule 1: static " + owner, Modifier.isStatic(owner.getModifiers()), true);
            due.is("rule 1: public " + owner, Modifier.isPublic(owner.getModifiers()), false);
        }
        Set<String> face = new HashSet<>();
        for (Method each : FeederOrders.class.getMethods()) {
            face.add(each.getName());
        }
        for (Method each : owner.getDeclaredMethods()) {
            boolean ofFace = owner == FeederOrders.class && Modifier.isPublic(each.getModifiers());
            due.is("rule 1: a name of the face is " + each, !ofFace && face.contains(each.getName()), false);
            due.is("rule 11: parameters of " + each, each.getParameterCount() <= MOST_PARAMETERS, true);
        }
        int fields = 0;
        for (Field each : owner.getDeclaredFields()) {
            boolean constant = Modifier.isStatic(each.getModifiers());
            fields += constant ? 0 : 1;
            due.is("rule 3: type of " + each, constant ? each.getType().isPrimitive() : isOurs(each.getType()), true);
            due.is("rule 5: final " + each, !constant || Modifier.isFinal(each.getModifiers()), true);
        }
        due.is("rule 11: fields of " + owner, fields <= MOST_FIELDS, true);
    }

    /** Numbers, own classes, rows of both, and rows of rows of numbers. */
    private static boolean isOurs(Class<?> type) {
        Class<?> one = type.isArray() ? type.getComponentType() : type;
        return one.isPrimitive() || classes().contains(one)
                || one.isArray() && one.getComponentType().isPrimitive();
    }

    private static void words(String code) {
        for (String word : new String[] {"->", "::", "@", "double", "float", "try", "catch", "finally", "assert",
                "synchronized", "instanceof", "native", "volatile", "package", "var", "String", "Object"}) {
            boolean found = Pattern.compile(word.matches("\\w+") ? "\\b" + word + "\\b" : word).matcher(code).find();
            due.is("rules 2 to 6: the word " + word, found, false);
        }
    }

    private static void library(String code) {
        for (String name : all(code, "import ([\\w.*]+);")) {
            due.is("rule 4: import of", name, "java.util.Arrays");
        }
        for (String name : all(code, "\\b((?:[A-Z][a-z]+)\\.\\w+)\\(")) {
            due.is("rule 4: the library's " + name, LIBRARY.contains(name), true);
        }
    }

    private static void exceptions(String code) {
        for (String thrown : all(code, "throw\\b([^;]*);")) {
            due.is("rule 6: throw" + thrown,
                    thrown.matches(" new (IllegalArgument|IndexOutOfBounds)Exception\\(\"\"\\)"), true);
        }
    }

    /** Room is made with the object alone: fields and the constructors make objects, and throws do. */
    private static void objects(String code) {
        for (String line : all(code, "\\n([^\\n]*\\bnew [^\\n]*)")) {
            boolean inField = line.matches("    (    )?(private )?final .*= .*");
            boolean inConstructor = line.strip().equals("this.draws = new Draws(seed);");
            due.is("rule 12: an object made in:" + line,
                    inField || inConstructor || line.strip().startsWith("throw new "), true);
        }
    }

    /** A method ends where a brace stands under its first line. */
    private static void lengths(String code) {
        String begin = "";
        int length = 0;
        for (String line : code.split("\\n")) {
            if (line.matches(" {4,8}\\w.*\\(.*") && !line.endsWith(";") && begin.isEmpty()) {
                begin = line;
                length = 0;
            }
            length++;
            if (!begin.isEmpty() && line.equals(begin.replaceAll("\\S.*", "}"))) {
                due.is("rule 11: lines of" + begin, length <= MOST_LINES, true);
                begin = "";
            }
        }
        due.is("an end of" + begin, begin.isEmpty(), true);
    }

    private static List<String> all(String code, String pattern) {
        List<String> found = new ArrayList<>();
        Matcher matcher = Pattern.compile(pattern).matcher(code);
        while (matcher.find()) {
            found.add(matcher.group(1));
        }
        return found;
    }
}
