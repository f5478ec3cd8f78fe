import java.io.IOException;
import java.lang.reflect.Field;
import java.lang.reflect.InvocationTargetException;
import java.lang.reflect.Method;
import java.lang.reflect.Modifier;
import java.nio.file.Files;
import java.nio.file.Path;
import java.util.ArrayList;
import java.util.HashMap;
import java.util.List;
import java.util.Map;
import java.util.Set;
import java.util.TreeSet;
import java.util.regex.Matcher;
import java.util.regex.Pattern;

/**
 * The calls that README.md shows answer what it says. The lines are read from the file itself,
 * so that neither can change without the other.
 */
public final class ReadmeTest {
    private static final Pattern MADE = Pattern.compile("PackDisk (\\w+) = new PackDisk\\((.+)\\);");
    private static final Pattern ASKED = Pattern.compile("(?:int (\\w+) = )?(\\w+\\.\\w+\\(.*\\)); *// ([^:]+)(?:: .+)?");
    private static final Pattern CALL = Pattern.compile("(\\w+)\\.(\\w+)\\((.*)\\)");
    private static final String THROWS = "throws ArrayIndexOutOfBoundsException";

    private final Map<String, PackDisk> disks = new HashMap<>();
    private final Map<String, Long> numbers = new HashMap<>();
    private final Set<String> shown;
    private int calls;

    /** A block of the file begins: what an earlier one named is not known in it. */
    private ReadmeTest(Set<String> shown) {
        this.shown = shown;
    }

    private void read(String line) throws ReflectiveOperationException {
        Matcher made = MADE.matcher(line);
        if (made.matches()) {
            disks.put(made.group(1), new PackDisk(Integer.decode(made.group(2))));
            return;
        }
        Matcher asked = ASKED.matcher(line);
        if (!asked.matches()) {
            throw new IllegalStateException("README.md has a line that is no call with its answer: " + line);
        }
        String due = asked.group(3);
        String got = answer(asked.group(2));
        Checks.dueText(asked.group(2), got, due.matches("[A-Z]+") ? "" + constant(due) : due);
        shown.add(due);
        if (asked.group(1) != null) {
            numbers.put(asked.group(1), Long.valueOf(got));
        }
    }

    private static int constant(String name) throws ReflectiveOperationException {
        return PackDisk.class.getField(name).getInt(null);
    }

    private String answer(String call) throws ReflectiveOperationException {
        try {
            return "" + value(call);
        } catch (InvocationTargetException e) {
            return "throws " + e.getCause().getClass().getSimpleName();
        }
    }

    private long value(String words) throws ReflectiveOperationException {
        Matcher call = CALL.matcher(words);
        if (call.matches()) {
            return ask(disks.get(call.group(1)), call.group(2), split(call.group(3)));
        }
        Long named = numbers.get(words);
        return named != null ? named : Long.decode(words.replaceAll("L$", ""));
    }

    private long ask(PackDisk disk, String name, List<String> given) throws ReflectiveOperationException {
        Method method = findMethod(name, given.size());
        Class<?>[] types = method.getParameterTypes();
        Object[] values = new Object[types.length];
        for (int k = 0; k < values.length; k++) {
            long value = value(given.get(k));
            values[k] = types[k] == long.class ? (Object) value : (Object) Math.toIntExact(value);
        }
        shown.add(name);
        calls++;
        if (calls > Disk.MOST_CALLS) {
            throw new IllegalStateException("README.md shows more calls on one object than are promised");
        }
        return (Integer) method.invoke(disk, values);
    }

    private static Method findMethod(String name, int parameters) {
        for (Method m : PackDisk.class.getDeclaredMethods()) {
            boolean open = Modifier.isPublic(m.getModifiers());
            if (open && m.getName().equals(name) && m.getParameterCount() == parameters) {
                return m;
            }
        }
        throw new IllegalStateException("README.md shows a call that is none: " + name + " of " + parameters);
    }

    /** What stands between the commas that are inside no other call's brackets. */
    private static List<String> split(String given) {
        List<String> parts = new ArrayList<>();
        int depth = 0;
        int begin = 0;
        for (int i = 0; i < given.length(); i++) {
            char c = given.charAt(i);
            depth += c == '(' ? 1 : c == ')' ? -1 : 0;
            if (c == ',' && depth == 0) {
                parts.add(given.substring(begin, i).trim());
                begin = i + 1;
            }
        }
        if (!given.isBlank()) {
            parts.add(given.substring(begin).trim());
        }
        return parts;
    }

    private static void dueShown(Set<String> shown) {
        Checks.sentence("README.md says how to use the class");
        List<String> face = new ArrayList<>(List.of(THROWS));
        for (Method m : PackDisk.class.getDeclaredMethods()) {
            if (Modifier.isPublic(m.getModifiers())) {
                face.add(m.getName());
            }
        }
        for (Field f : PackDisk.class.getFields()) {
            face.add(f.getName());
        }
        for (String name : face) {
            Checks.dueText("what is shown of " + name, shown.contains(name) ? name : "nothing", name);
        }
    }

    public static void main(String[] args) throws IOException, ReflectiveOperationException {
        Checks.sentence("README.md");
        Set<String> shown = new TreeSet<>();
        ReadmeTest block = null;
        for (String line : Files.readAllLines(Path.of("README.md"))) {
            if (line.startsWith("```")) {
                block = line.equals("```java") ? new ReadmeTest(shown) : null;
            } else if (block != null && !line.isBlank()) {
                block.read(line);
            }
        }
        dueShown(shown);
        Checks.finish();
    }
}
