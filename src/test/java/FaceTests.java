import java.lang.reflect.Constructor;
import java.lang.reflect.Field;
import java.lang.reflect.Method;
import java.lang.reflect.Modifier;
import java.util.Set;
import java.util.TreeSet;

/** The public face. */
final class FaceTests {
    private static final Set<String> METHODS = Set.of(
            "setSource 5", "setResistance 2", "set 2", "addEntry 3", "removeEntry 1", "setSettle 2", "order 1",
            "scan 1", "pass 1", "take 1", "restore 1", "undo 0", "append 1", "clearText 0", "load 0", "count 1",
            "channel 2", "entry 2", "value 2", "sample 2", "account 1", "held 1", "would 2", "why 1", "settleFor 2",
            "bestRule 0", "groundsNeeded 0");

    private FaceTests() {
    }

    static void run() {
        constants();
        members();
    }

    static boolean hasMethod(String name) {
        return METHODS.stream().anyMatch(method -> method.startsWith(name + " "));
    }

    private static void constants() {
        Check.due("INVALID_ARGUMENT", ScanRing.INVALID_ARGUMENT, -10000001);
        Check.due("ILLEGAL_STATE", ScanRing.ILLEGAL_STATE, -10000002);
        Check.due("CAPACITY_EXCEEDED", ScanRing.CAPACITY_EXCEEDED, -10000003);
        Check.due("NONE", ScanRing.NONE, -10000009);
    }

    private static void members() {
        Check.holds("the class is public and final", ScanRing.class.getModifiers() == (Modifier.PUBLIC | Modifier.FINAL));
        Constructor<?>[] constructors = ScanRing.class.getDeclaredConstructors();
        Check.holds("one public constructor", constructors.length == 1 && Modifier.isPublic(constructors[0].getModifiers())
                && constructors[0].getParameterCount() == 0);
        Set<String> found = new TreeSet<>();
        for (Method method : ScanRing.class.getDeclaredMethods()) {
            if (Modifier.isPrivate(method.getModifiers())) {
                Check.holds(method.getName() + " is no name of a public method", !hasMethod(method.getName()));
            } else {
                Check.holds(method.getName() + " answers an int", method.getReturnType() == int.class);
                Check.holds(method.getName() + " is public", method.getModifiers() == Modifier.PUBLIC);
                found.add(method.getName() + " " + method.getParameterCount());
            }
        }
        Check.holds("the methods are " + found, found.equals(new TreeSet<>(METHODS)));
        int shown = 0;
        for (Field field : ScanRing.class.getDeclaredFields()) {
            shown += Modifier.isPrivate(field.getModifiers()) ? 0 : 1;
        }
        Check.due("fields that are not private", shown, 4);
    }
}
