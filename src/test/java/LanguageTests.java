import java.io.IOException;
import java.lang.reflect.Constructor;
import java.lang.reflect.Executable;
import java.lang.reflect.Field;
import java.lang.reflect.Method;
import java.lang.reflect.Modifier;
import java.nio.file.Files;
import java.nio.file.Path;
import java.util.ArrayDeque;
import java.util.ArrayList;
import java.util.Arrays;
import java.util.Collections;
import java.util.Deque;
import java.util.IdentityHashMap;
import java.util.List;
import java.util.Set;
import java.util.regex.Matcher;
import java.util.regex.Pattern;

/** Those rules of LANGUAGE.md that can be told from the class and its text. */
final class LanguageTests {
    private static final String[] FORBIDDEN = {
        "\nimport ", "\npackage ", "throw ", "try {", "catch ", "finally", "->", "::", "synchronized", "assert ",
        "static {", "Exact", "hashCode", "instanceof", "(this", ", this", "return this", "= this",
    };
    private static final Pattern LIBRARY = Pattern.compile("\\b(java|javax|Math|Integer|Long|Float|Double|Arrays|System"
            + "|String|StringBuilder|ArrayList|List|Object|Thread|Character)\\b(\\.\\w+)?");
    private static final Set<String> USED = Set.of(
            "Math.max", "Math.min", "Math.abs", "Math.floorDiv", "Math.floorMod", "System.arraycopy");
    /** Methods of the class itself are set in by four spaces, those of the classes inside by eight. */
    private static final Pattern METHOD = Pattern.compile("(?s)\n( {4}| {8})([a-zA-Z][^\n]*\\)) \\{\n(.*?)\n\\1}\n");
    private static final int ROOM = 600_000;

    private final String text;
    private final List<Class<?>> classes = new ArrayList<>();

    private LanguageTests(String text) {
        this.text = text;
        classes.add(ScanRing.class);
        classes.addAll(List.of(ScanRing.class.getDeclaredClasses()));
    }

    static void run(Path file) throws IOException, IllegalAccessException {
        LanguageTests tests = new LanguageTests(Files.readString(file));
        tests.classes();
        tests.members();
        tests.words();
        tests.library();
        tests.methods();
        objects();
    }

    /** Rules 1, 2 and 11. */
    private void classes() {
        Check.holds("at most twelve classes, not " + classes.size(), classes.size() <= 12);
        for (Class<?> inside : ScanRing.class.getDeclaredClasses()) {
            int modifiers = inside.getModifiers();
            Check.holds(inside + " is static", Modifier.isStatic(modifiers));
            Check.holds(inside + " is final", Modifier.isFinal(modifiers));
            Check.holds(inside + " is not public", !Modifier.isPublic(modifiers) && !Modifier.isProtected(modifiers));
            Check.due("classes in " + inside, inside.getDeclaredClasses().length, 0);
            for (Method method : inside.getDeclaredMethods()) {
                Check.holds(method + " bears no name of the face", !FaceTests.hasMethod(method.getName()));
            }
        }
    }

    /** Rules 3, 5 and 11. */
    private void members() {
        for (Class<?> owner : classes) {
            int fields = 0;
            for (Field field : owner.getDeclaredFields()) {
                boolean isConstant = Modifier.isStatic(field.getModifiers());
                fields += isConstant ? 0 : 1;
                Check.holds(field + " is a constant or no static one", !isConstant
                        || Modifier.isFinal(field.getModifiers()) && Set.of(int.class, char.class).contains(field.getType()));
                Check.holds(field + " has a type of rule 3", isOfRule3(field.getType()));
            }
            Check.holds(owner + " has at most twenty fields, not " + fields, fields <= 20);
            List<Executable> calls = new ArrayList<>(Arrays.asList(owner.getDeclaredMethods()));
            calls.addAll(Arrays.asList(owner.getDeclaredConstructors()));
            for (Executable call : calls) {
                Check.holds(call + " takes at most seven", call.getParameterCount() <= 7);
                Check.holds(call + " takes types of rule 3", Arrays.stream(call.getParameterTypes()).allMatch(this::isOfRule3));
                Check.holds(call + " answers a type of rule 3", call instanceof Constructor
                        || ((Method) call).getReturnType() == void.class || isOfRule3(((Method) call).getReturnType()));
            }
        }
    }

    private boolean isOfRule3(Class<?> type) {
        Class<?> part = type.isArray() ? type.getComponentType() : type;
        return Set.of(int.class, char.class, boolean.class, float.class).contains(part) || classes.contains(part);
    }

    /** Rules 2, 6 and 12. */
    private void words() {
        for (String word : FORBIDDEN) {
            Check.holds("the file has no '" + word.trim() + "'", !text.contains(word));
        }
        Check.holds("the file is of plain signs", text.chars().allMatch(sign -> sign < 128));
    }

    /** Rule 4, of which the class uses little. */
    private void library() {
        Matcher library = LIBRARY.matcher(text.replaceAll("(?s)/\\*.*?\\*/", "").replaceAll("//[^\n]*", ""));
        while (library.find()) {
            Check.holds("the library is used for " + library.group(), USED.contains(library.group()));
        }
    }

    /** Rules 11 and 12: methods are short, and rows are made by constructors alone. */
    private void methods() {
        Matcher method = METHOD.matcher(text);
        int found = 0;
        while (method.find()) {
            found++;
            String head = method.group(2);
            String lines = method.group(3);
            Check.holds("sixty lines at most: " + head, lines.lines().count() <= 60);
            boolean isConstructor = Character.isUpperCase(head.replace("public ", "").charAt(0));
            Check.holds("no object is made: " + head, isConstructor || !lines.contains("new "));
        }
        int declared = 0;
        for (Class<?> owner : classes) {
            declared += owner.getDeclaredMethods().length;
        }
        Check.holds(found + " methods were read, of " + declared, found >= declared);
    }

    /** The room of a run: what an object holds, which is all that its calls need. */
    private static void objects() throws IllegalAccessException {
        ScanRing ring = Rings.RICH.get();
        int used = objectsOf(ring);
        Check.due("objects of a ring that was used", used, objectsOf(new ScanRing()));
        Check.holds("512 rings have room, of " + used + " objects each", used * 512 < ROOM);
    }

    private static int objectsOf(Object root) throws IllegalAccessException {
        Set<Object> found = Collections.newSetFromMap(new IdentityHashMap<>());
        Deque<Object> left = new ArrayDeque<>(List.of(root));
        while (!left.isEmpty()) {
            Object one = left.pop();
            if (found.add(one)) {
                left.addAll(partsOf(one));
            }
        }
        return found.size();
    }

    private static List<Object> partsOf(Object one) throws IllegalAccessException {
        if (one instanceof Object[]) {
            return Arrays.asList((Object[]) one);
        }
        List<Object> parts = new ArrayList<>();
        for (Field field : one.getClass().getDeclaredFields()) {
            if (!Modifier.isStatic(field.getModifiers()) && !field.getType().isPrimitive()) {
                field.setAccessible(true);
                parts.add(field.get(one));
            }
        }
        return parts;
    }
}
