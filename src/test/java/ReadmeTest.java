import java.io.IOException;
import java.lang.reflect.Method;
import java.lang.reflect.Modifier;
import java.nio.file.Files;
import java.nio.file.Path;
import java.util.ArrayList;
import java.util.HashMap;
import java.util.List;
import java.util.Map;
import java.util.Set;
import java.util.TreeSet;
import java.util.regex.Matcher;
import java.util.regex.Pattern;

/** README.md's examples, read from README.md itself: each call answers what the line says behind it. */
public final class ReadmeTest {
    private static final Pattern NEW = Pattern.compile("(FlagCore )?core = new FlagCore\\(\\);");
    private static final Pattern CALL = Pattern.compile("core\\.(\\w+)\\((.*)\\); *// (-?\\d+|[A-Z]+)(: .+)?");
    private static final Set<String> NEVER_REFUSED = Set.of("step", "ended", "digest");
    private static final Set<String> ANSWERS = Set.of("BAD", "DONE", "ENTERED", "ILLEGAL", "BEYOND");

    private final Map<String, Method> face = new HashMap<>();
    private final Set<String> answered = new TreeSet<>();
    private final Set<String> refused = new TreeSet<>();
    private final Set<String> named = new TreeSet<>();
    private FlagCore core = null;

    private ReadmeTest() {
        for (Method m : FlagCore.class.getDeclaredMethods()) {
            if (Modifier.isPublic(m.getModifiers())) {
                face.put(m.getName(), m);
            }
        }
    }

    /** The lines of the blocks of Java, in their order. */
    private static List<String> examples(Path readme) throws IOException {
        List<String> lines = new ArrayList<>();
        boolean inside = false;
        for (String line : Files.readAllLines(readme)) {
            if (line.startsWith("```")) {
                inside = line.equals("```java");
            } else if (inside && !line.isBlank()) {
                lines.add(line.strip());
            }
        }
        return lines;
    }

    private void follow(String line) throws ReflectiveOperationException {
        Matcher call = CALL.matcher(line);
        if (NEW.matcher(line).matches()) {
            core = new FlagCore();
        } else if (core == null || !call.matches() || !face.containsKey(call.group(1))) {
            Check.due("README.md: lines without a call and its answer: " + line, 1, 0);
        } else {
            answer(call.group(1), call.group(2), call.group(3));
        }
    }

    private void answer(String name, String numbers, String want) throws ReflectiveOperationException {
        int due = valueOf(want);
        if (want.equals("BAD")) {
            long[] was = Check.state(core);
            Check.refused("README.md: " + name + "(" + numbers + ")", core, was, callOf(name, numbers));
            refused.add(name);
        } else {
            Check.due("README.md: " + name + "(" + numbers + ")", callOf(name, numbers), due);
            answered.add(name);
        }
        named.add(want);
    }

    private static int valueOf(String want) throws ReflectiveOperationException {
        return Character.isLetter(want.charAt(0)) ? FlagCore.class.getField(want).getInt(null) : Integer.parseInt(want);
    }

    private int callOf(String name, String numbers) throws ReflectiveOperationException {
        Method m = face.get(name);
        Class<?>[] types = m.getParameterTypes();
        String[] texts = numbers.isEmpty() ? new String[0] : numbers.split(", ");
        Object[] values = new Object[types.length];
        Check.due("README.md: numbers of " + name + "(" + numbers + ")", texts.length, types.length);
        for (int i = 0; i < types.length; i++) {
            values[i] = number(texts[i], types[i]);
        }
        return (Integer) m.invoke(core, values);
    }

    /** A number as Java writes it: of a long's sixteen hexadecimal digits the first may be 8 or more. */
    private static Object number(String text, Class<?> type) {
        String digits = text.replace("L", "");
        if (type == long.class) {
            return digits.startsWith("0x") ? Long.parseUnsignedLong(digits.substring(2), 16) : Long.parseLong(digits);
        }
        return Integer.decode(digits);
    }

    private void everyCallStands() {
        for (String name : face.keySet()) {
            Check.due("README.md: an answer of " + name, answered.contains(name) ? 1 : 0, 1);
            Check.due("README.md: BAD of " + name, refused.contains(name) ? 1 : 0, NEVER_REFUSED.contains(name) ? 0 : 1);
        }
        for (String answer : ANSWERS) {
            Check.due("README.md: an answer that is " + answer, named.contains(answer) ? 1 : 0, 1);
        }
    }

    public static void main(String[] args) throws IOException, ReflectiveOperationException {
        ReadmeTest test = new ReadmeTest();
        for (String line : examples(Path.of("README.md"))) {
            test.follow(line);
        }
        test.everyCallStands();
        Check.finish("ReadmeTest");
    }
}
