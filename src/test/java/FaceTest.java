import java.io.IOException;
import java.lang.reflect.Constructor;
import java.lang.reflect.Executable;
import java.lang.reflect.Field;
import java.lang.reflect.Method;
import java.lang.reflect.Modifier;
import java.nio.file.Files;
import java.nio.file.Path;
import java.util.Set;
import java.util.TreeSet;

/** The public face is the document's, word for word, with nothing beside it. */
public final class FaceTest {
    private static final Path DOCUMENT = Path.of("..", "shared", "DOC.md");
    private static final String FACE = """
            public final class FeederOrders {
                public static final int NONE = -1;
                public FeederOrders(long seed, int slots);
                public int kind(int width, int nozzle) throws IllegalArgumentException;
                public int part(int kind, long x, long y, long height) throws IndexOutOfBoundsException, IllegalArgumentException;
                public int machine(int nozzles, int trip) throws IllegalArgumentException;
                public boolean fixed(int kind, int slot) throws IndexOutOfBoundsException;
                public int run(int machines, long steps) throws IllegalArgumentException;
                public int slot(int machine, int kind) throws IndexOutOfBoundsException;
                public int order(int machine, int k) throws IndexOutOfBoundsException;
                public int trip(int machine, int part) throws IndexOutOfBoundsException;
                public boolean proved();
                public long bound();
                public boolean lower(int a, int b) throws IndexOutOfBoundsException;
                public boolean refill(int kind, int n) throws IndexOutOfBoundsException, IllegalArgumentException;
                public boolean reject(int kind, long above, long below) throws IndexOutOfBoundsException, IllegalArgumentException;
                public int machineOf(int part) throws IndexOutOfBoundsException;
                public int improve(int steps) throws IllegalArgumentException;
                public boolean common(int boardA, int boardB) throws IndexOutOfBoundsException;
                public int changes(int machine) throws IndexOutOfBoundsException;
            }
            """;

    public static void main(String[] args) throws IOException {
        Due due = new Due();
        if (Files.exists(DOCUMENT)) {
            due.is("the document's face is the one here", Files.readString(DOCUMENT).contains(FACE), true);
        }
        due.is("class", Modifier.toString(FeederOrders.class.getModifiers()), "public final");
        due.is("methods and constructors", found().toString(), wanted().toString());
        due.is("constants", constants().toString(), "[public static final int NONE]");
        due.is("NONE", FeederOrders.NONE, -1);
        due.end();
    }

    /** The face's methods and constructors, without the names of their parameters. */
    private static Set<String> wanted() {
        Set<String> wanted = new TreeSet<>();
        for (String line : FACE.split("\\n")) {
            if (line.contains("(")) {
                String unnamed = line.replaceAll("(int|long) \\w+([,)])", "$1$2");
                wanted.add(unnamed.replace(", ", ",").replace(";", "").strip());
            }
        }
        return wanted;
    }

    private static Set<String> found() {
        Set<String> found = new TreeSet<>();
        for (Constructor<?> each : FeederOrders.class.getDeclaredConstructors()) {
            addVisible(found, each);
        }
        for (Method each : FeederOrders.class.getDeclaredMethods()) {
            addVisible(found, each);
        }
        return found;
    }

    private static void addVisible(Set<String> found, Executable each) {
        if (!Modifier.isPrivate(each.getModifiers())) {
            found.add(each.toGenericString().replace("FeederOrders.", "").replace("java.lang.", ""));
        }
    }

    private static Set<String> constants() {
        Set<String> found = new TreeSet<>();
        for (Field each : FeederOrders.class.getDeclaredFields()) {
            if (!Modifier.isPrivate(each.getModifiers())) {
                found.add(each.toGenericString().replace("FeederOrders.", ""));
            }
        }
        return found;
    }
}
