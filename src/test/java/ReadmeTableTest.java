import java.io.IOException;
import java.lang.reflect.InvocationTargetException;
import java.lang.reflect.Method;
import java.nio.file.Files;
import java.nio.file.Path;
import java.util.ArrayList;
import java.util.List;
import java.util.Set;
import java.util.TreeSet;
import java.util.regex.Matcher;
import java.util.regex.Pattern;

/** README.md's table of all calls: their names and arguments, the bounds of these, the numbers of the settings. */
final class ReadmeTableTest {
    private static final Pattern ROW = Pattern.compile("\\| `(\\w+)\\(([\\w, ]*)\\)` \\| (.*) \\| (.*)\\|");
    private static final Pattern DECLARED =
            Pattern.compile("    public (?:int|long|boolean) (\\w+)\\(([\\w, ]*)\\).*\\{");
    private static final Pattern BOUNDS = Pattern.compile("(-?\\d+) to (-?\\d+)");
    private static final Pattern SETTING = Pattern.compile("setting (\\d)");
    private static final List<String> INDEXES = List.of("transmitter", "index");

    private final String name;
    private final String[] parameters;
    private final String purpose;
    private final Method method;
    private final List<Long> least = new ArrayList<>();
    private final List<Long> greatest = new ArrayList<>();

    private ReadmeTableTest(Matcher row) {
        name = row.group(1);
        parameters = row.group(2).isEmpty() ? new String[0] : row.group(2).split(", ");
        purpose = row.group(3);
        method = methodOf(name);
        Matcher bounds = BOUNDS.matcher(row.group(4));
        while (bounds.find()) {
            least.add(Long.parseLong(bounds.group(1)));
            greatest.add(Long.parseLong(bounds.group(2)));
        }
    }

    public static void main(String[] args) throws IOException, IllegalAccessException {
        Set<String> told = new TreeSet<>();
        for (String line : Readme.lines()) {
            Matcher row = ROW.matcher(line);
            if (row.matches()) {
                told.add(row.group(1) + "(" + row.group(2) + ")");
                new ReadmeTableTest(row).check();
            }
        }
        Set<String> declared = declared();
        Checks.same("public methods", declared.size(), 30);
        Checks.yes("the calls are " + declared + ", the page tells of " + told, told.equals(declared));
        Checks.end();
    }

    private static Set<String> declared() throws IOException {
        Set<String> found = new TreeSet<>();
        for (String line : Files.readAllLines(Path.of("src/main/java/FlowComputer.java"))) {
            Matcher matcher = DECLARED.matcher(line);
            if (matcher.matches()) {
                found.add(matcher.group(1) + "(" + matcher.group(2).replaceAll("(int|long) ", "") + ")");
            }
        }
        return found;
    }

    private static Method methodOf(String name) {
        for (Method method : FlowComputer.class.getMethods()) {
            if (method.getName().equals(name)) {
                return method;
            }
        }
        return null;
    }

    private void check() throws IllegalAccessException {
        Checks.begin(name);
        if (method == null || least.size() != parameters.length) {
            Checks.fail("no such method, or not a least and a greatest value for each argument");
            return;
        }
        FlowComputer x = Prepared.FULL.make();
        for (int i = 0; i < parameters.length; i++) {
            Class<?> due = INDEXES.contains(parameters[i])
                    ? IndexOutOfBoundsException.class : IllegalArgumentException.class;
            same(i, least.get(i), refused(x, i, least.get(i)), null);
            same(i, greatest.get(i), refused(x, i, greatest.get(i)), null);
            same(i, least.get(i) - 1, refused(x, i, least.get(i) - 1), due);
            same(i, greatest.get(i) + 1, refused(x, i, greatest.get(i) + 1), due);
        }
        setting();
    }

    private void same(int parameter, long value, Class<?> got, Class<?> due) {
        Checks.yes(parameters[parameter] + " = " + value + ": refused with " + got + ", due is " + due, got == due);
    }

    /** With an argument of that value, and the other ones as small as they may be, and as great if that is refused. */
    private Class<?> refused(FlowComputer x, int parameter, long value) throws IllegalAccessException {
        Class<?> small = thrown(x, arguments(least, parameter, value));
        return small == null ? null : thrown(x, arguments(greatest, parameter, value));
    }

    private Object[] arguments(List<Long> others, int parameter, long value) {
        Object[] all = new Object[parameters.length];
        for (int i = 0; i < all.length; i++) {
            long argument = i == parameter ? value : others.get(i);
            if (method.getParameterTypes()[i] == long.class) {
                all[i] = argument;
            } else {
                all[i] = (int) argument;
            }
        }
        return all;
    }

    /** Null if the arguments are not what the call is refused for. */
    private Class<?> thrown(FlowComputer x, Object[] arguments) throws IllegalAccessException {
        try {
            method.invoke(x, arguments);
            return null;
        } catch (InvocationTargetException e) {
            Class<?> kind = e.getCause().getClass();
            return kind == IllegalStateException.class ? null : kind;
        }
    }

    private void setting() throws IllegalAccessException {
        FlowComputer x = new FlowComputer();
        thrown(x, arguments(least, -1, 0));
        Matcher number = SETTING.matcher(purpose);
        boolean told = number.matches();
        Checks.same("events that it logs in a new object", x.events(), told ? 1 : 0);
        if (told && x.events() == 1) {
            Checks.same("kind of the event", x.event(0, 1), FlowComputer.CONFIGURATION);
            Checks.same("number of the setting", x.event(0, 2), Integer.parseInt(number.group(1)));
        }
    }
}
