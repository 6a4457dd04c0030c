import java.io.IOException;
import java.lang.reflect.Field;
import java.lang.reflect.Method;
import java.lang.reflect.Modifier;
import java.nio.file.Files;
import java.nio.file.Path;
import java.util.Arrays;
import java.util.Map;
import java.util.Set;
import java.util.TreeMap;
import java.util.TreeSet;
import java.util.regex.Matcher;
import java.util.regex.Pattern;

/** The examples of README.md, which are one run on one ring: each call beside the answer that stands behind it. */
final class ReadmeTests {
    private static final Pattern CALL = Pattern.compile("ring\\.(\\w+)\\(([-0-9, ]*)\\); +// (-?\\d+|[A-Z_]+)(: .+)?");
    private static final Pattern TYPE = Pattern.compile("type\\(ring, \"([^\"]*)\"\\);");

    private final Map<String, Method> face = new TreeMap<>();
    private final Set<String> shown = new TreeSet<>();
    private final ScanRing ring = new ScanRing();

    private ReadmeTests() {
        for (Method method : ScanRing.class.getDeclaredMethods()) {
            if (Modifier.isPublic(method.getModifiers())) {
                face.put(method.getName(), method);
            }
        }
    }

    static void run(Path page) throws IOException, ReflectiveOperationException {
        String text = Files.readString(page);
        ReadmeTests tests = new ReadmeTests();
        for (String line : text.split("\n")) {
            tests.read(line);
        }
        Check.holds("README.md shows every call, not just " + tests.shown, tests.shown.equals(tests.face.keySet()));
        constants(text);
    }

    private void read(String line) throws ReflectiveOperationException {
        Matcher call = CALL.matcher(line);
        Matcher type = TYPE.matcher(line);
        if (call.matches()) {
            shown.add(call.group(1));
            Check.due("README.md: " + line, answer(call.group(1), call.group(2)), numberOf(call.group(3)));
        } else if (type.matches()) {
            Rings.type(ring, type.group(1));
        } else {
            Check.holds("README.md has an answer behind " + line, !line.startsWith("ring.") && !line.startsWith("type("));
        }
    }

    private int answer(String name, String arguments) throws ReflectiveOperationException {
        Object[] numbers = Arrays.stream(arguments.split(", ")).filter(number -> !number.isEmpty())
                .map(Integer::valueOf).toArray();
        return (int) face.get(name).invoke(ring, numbers);
    }

    private static int numberOf(String answer) throws ReflectiveOperationException {
        boolean isConstant = Character.isLetter(answer.charAt(0));
        return isConstant ? ScanRing.class.getField(answer).getInt(null) : Integer.parseInt(answer);
    }

    private static void constants(String text) throws IllegalAccessException {
        for (Field constant : ScanRing.class.getFields()) {
            String row = "| `" + constant.getName() + "` | " + constant.getInt(null) + " |";
            Check.holds("README.md has the row " + row, text.contains(row));
        }
    }
}
