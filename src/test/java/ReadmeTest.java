import java.io.IOException;
import java.lang.reflect.Method;
import java.lang.reflect.Modifier;
import java.nio.file.Files;
import java.nio.file.Path;
import java.util.ArrayList;
import java.util.List;
import java.util.Set;
import java.util.TreeSet;
import java.util.regex.Matcher;
import java.util.regex.Pattern;

/** README.md: each call of its example answers what stands behind it, and no call of the face is forgotten. */
public final class ReadmeTest {
    private static final Checks CHECK = new Checks();
    private static final Path README = Path.of("README.md");
    private static final Pattern CALL =
            Pattern.compile("^desk\\.(\\w+)\\(([^)]*)\\); +// (-?\\d+|true|false)(?:: .*)?$");
    private static final Pattern ROW = Pattern.compile("^\\| \\d+ \\| `(\\w+)\\(.*");

    public static void main(String[] args) throws IOException, ReflectiveOperationException {
        CHECK.part("README.md");
        PapersDesk desk = new PapersDesk();
        Set<String> called = new TreeSet<>();
        Set<String> listed = new TreeSet<>();
        for (String line : Files.readAllLines(README)) {
            Matcher row = ROW.matcher(line);
            if (row.matches()) {
                listed.add(row.group(1));
            }
            if (line.startsWith("desk.")) {
                Matcher call = CALL.matcher(line);
                CHECK.yes("a call with its answer: " + line, call.matches());
                called.add(call.group(1));
                compare(desk, call);
            }
        }
        Set<String> face = face();
        CHECK.yes("each call is in the example, but " + without(face, called), called.equals(face));
        CHECK.yes("each call is in the table, but " + without(face, listed), listed.equals(face));
        CHECK.end();
    }

    private static void compare(PapersDesk desk, Matcher call) throws ReflectiveOperationException {
        Method method = named(call.group(1));
        List<Object> arguments = new ArrayList<>();
        String[] written = call.group(2).isEmpty() ? new String[0] : call.group(2).split(", ");
        for (int i = 0; i < written.length; i++) {
            arguments.add(valueOf(written[i], method.getParameterTypes()[i]));
        }
        String got = "" + method.invoke(desk, arguments.toArray());
        CHECK.yes(call.group() + ", but it answered " + got, got.equals(call.group(3)));
    }

    private static Object valueOf(String written, Class<?> type) {
        if (type == boolean.class) {
            return Boolean.valueOf(written);
        }
        return type == long.class ? Long.decode(written.replace("L", "")) : (Object) Integer.valueOf(written);
    }

    private static Method named(String name) {
        for (Method method : PapersDesk.class.getMethods()) {
            if (method.getName().equals(name)) {
                return method;
            }
        }
        throw new IllegalStateException("no call " + name);
    }

    private static Set<String> face() {
        Set<String> names = new TreeSet<>();
        for (Method method : PapersDesk.class.getDeclaredMethods()) {
            if (Modifier.isPublic(method.getModifiers())) {
                names.add(method.getName());
            }
        }
        return names;
    }

    private static Set<String> without(Set<String> all, Set<String> some) {
        Set<String> rest = new TreeSet<>(all);
        rest.removeAll(some);
        return rest;
    }
}
