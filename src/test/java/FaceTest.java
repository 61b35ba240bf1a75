import java.lang.reflect.Constructor;
import java.lang.reflect.Field;
import java.lang.reflect.Method;
import java.lang.reflect.Modifier;
import java.util.Arrays;
import java.util.Set;
import java.util.TreeSet;

/** The public face is the document's, with nothing beside it. */
public final class FaceTest {
    private static final String OUT = " throws java.lang.IndexOutOfBoundsException";
    private static final String ILLEGAL = " throws java.lang.IllegalArgumentException";
    private static final String BOTH = OUT + ",java.lang.IllegalArgumentException";

    private static final String HEAD = "public %s FeederOrders.%s";

    public static void main(String[] args) {
        Due due = new Due();
        due.is("class", Modifier.toString(FeederOrders.class.getModifiers()), "public final");
        due.is("methods", methods().toString(), wanted().toString());
        for (Constructor<?> each : FeederOrders.class.getDeclaredConstructors()) {
            due.is("constructor", each.toGenericString(), "public FeederOrders(long,int)");
        }
        for (Field each : FeederOrders.class.getDeclaredFields()) {
            boolean hidden = Modifier.isPrivate(each.getModifiers());
            due.is("field " + each.getName(), hidden, !each.getName().equals("NONE"));
            boolean loose = Modifier.isStatic(each.getModifiers()) && !Modifier.isFinal(each.getModifiers());
            due.is("static and not final: " + each.getName(), loose, false);
        }
        for (Class<?> each : FeederOrders.class.getDeclaredClasses()) {
            due.is("class inside " + each.getName(), Modifier.isStatic(each.getModifiers()), true);
            due.is("public class inside " + each.getName(), Modifier.isPublic(each.getModifiers()), false);
        }
        due.is("NONE", FeederOrders.NONE, -1);
        due.end();
    }

    private static Set<String> methods() {
        Set<String> found = new TreeSet<>();
        for (Method each : FeederOrders.class.getDeclaredMethods()) {
            if (!Modifier.isPrivate(each.getModifiers())) {
                found.add(each.toGenericString());
            }
        }
        return found;
    }

    private static Set<String> wanted() {
        return new TreeSet<>(Arrays.asList(
                String.format(HEAD, "int", "kind(int,int)" + ILLEGAL),
                String.format(HEAD, "int", "part(int,long,long,long)" + BOTH),
                String.format(HEAD, "int", "machine(int,int)" + ILLEGAL),
                String.format(HEAD, "boolean", "fixed(int,int)" + OUT),
                String.format(HEAD, "int", "run(int,long)" + ILLEGAL),
                String.format(HEAD, "int", "slot(int,int)" + OUT),
                String.format(HEAD, "int", "order(int,int)" + OUT),
                String.format(HEAD, "int", "trip(int,int)" + OUT),
                String.format(HEAD, "boolean", "proved()"),
                String.format(HEAD, "long", "bound()"),
                String.format(HEAD, "boolean", "lower(int,int)" + OUT),
                String.format(HEAD, "boolean", "refill(int,int)" + BOTH),
                String.format(HEAD, "boolean", "reject(int,long,long)" + BOTH),
                String.format(HEAD, "int", "machineOf(int)" + OUT),
                String.format(HEAD, "int", "improve(int)" + ILLEGAL),
                String.format(HEAD, "boolean", "common(int,int)" + OUT),
                String.format(HEAD, "int", "changes(int)" + OUT)));
    }
}
