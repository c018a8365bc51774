import java.io.IOException;
import java.lang.reflect.Constructor;
import java.lang.reflect.Field;
import java.lang.reflect.Method;
import java.lang.reflect.Modifier;
import java.nio.file.Files;
import java.nio.file.Path;
import java.util.Arrays;
import java.util.List;
import java.util.Set;
import java.util.TreeSet;

/** The class shows the document's face and nothing else, and keeps to what of LANGUAGE.md can be read off its text. */
final class FaceTest {
    private static final String IOB = "IndexOutOfBoundsException";
    private static final String IAE = "IllegalArgumentException";
    private static final String ISE = "IllegalStateException";

    private static final List<String> METHODS = List.of(
            "int setSpan(int,int)" + IOB + "," + IAE, "int setDamping(int,int)" + IOB + "," + IAE,
            "int setMode(int)" + IAE, "int setDensity(int,int)" + IOB + "," + IAE,
            "int setFactor(int,int)" + IOB + "," + IAE, "int setMeter(int)" + IAE, "int setCutoff(int,int)" + IAE,
            "int setContractHour(int)" + IAE, "int setRaw(int,int)" + IOB + "," + IAE, "long run(int)" + IAE,
            "int openBatch(int,int)" + IAE + "," + ISE, "long closeBatch()" + ISE,
            "int transmitter(int,int)" + IOB + "," + IAE, "int range()", "int differential()", "long density()",
            "long flow()", "boolean isFlowing()", "long total(int)" + IAE, "int valve()",
            "long flowFor(int,int,int)" + IAE, "int differentialFor(long)" + IAE, "int hours()",
            "long hour(int,int)" + IOB + "," + IAE, "int days()", "long day(int,int)" + IOB + "," + IAE,
            "int events()", "long event(int,int)" + IOB + "," + IAE, "int undo()" + ISE, "long digest()");

    private static final List<String> CONSTANTS = List.of("NONE=-1", "LIQUID=0", "GAS=1", "FAULT=0", "CLEAR=1",
            "SWITCH=2", "HELD=3", "BATCH=4", "CONFIGURATION=5");

    private static final List<String> FORBIDDEN = List.of("import ", "package ", "->", "::", "Exact(", "catch",
            "try ", "finally", "synchronized", "assert ", "hashCode", "equals(", "toString", "double", "float",
            "System.out", "System.nano", "System.current", "Random", "Thread", "sqrt");

    private FaceTest() {
    }

    public static void main(String[] args) throws IOException, IllegalAccessException {
        int kind = FlowComputer.class.getModifiers();
        Checks.yes("the class is public and final", Modifier.isPublic(kind) && Modifier.isFinal(kind));
        methods();
        constants();
        Constructor<?>[] constructors = FlowComputer.class.getDeclaredConstructors();
        Checks.same("constructors", constructors.length, 1);
        Checks.yes("the constructor is public", Modifier.isPublic(constructors[0].getModifiers()));
        Checks.same("the constructor's parameters", constructors[0].getParameterCount(), 0);
        nestedClasses();
        sourceText();
        Checks.end();
    }

    private static void methods() {
        Set<String> seen = new TreeSet<>();
        Set<String> open = new TreeSet<>();
        Set<String> hidden = new TreeSet<>();
        for (Method method : FlowComputer.class.getDeclaredMethods()) {
            if (method.isSynthetic()) {
                continue;
            }
            if (Modifier.isPrivate(method.getModifiers())) {
                hidden.add(method.getName());
                continue;
            }
            Checks.yes(method + " is public and of the object", Modifier.isPublic(method.getModifiers())
                    && !Modifier.isStatic(method.getModifiers()));
            seen.add(method.getReturnType() + " " + method.getName() + names(method.getParameterTypes(), "(", ")")
                    + names(method.getExceptionTypes(), "", ""));
            open.add(method.getName());
        }
        Checks.yes("the methods are " + seen, seen.equals(new TreeSet<>(METHODS)));
        hidden.retainAll(open);
        Checks.yes("private methods with a public one's name: " + hidden, hidden.isEmpty());
    }

    private static String names(Class<?>[] types, String before, String behind) {
        return before + String.join(",", Arrays.stream(types).map(Class::getSimpleName).toList()) + behind;
    }

    private static void constants() throws IllegalAccessException {
        Set<String> seen = new TreeSet<>();
        for (Field field : FlowComputer.class.getDeclaredFields()) {
            int kind = field.getModifiers();
            if (Modifier.isStatic(kind)) {
                Checks.yes(field + " is final", Modifier.isFinal(kind));
            }
            if (!Modifier.isPrivate(kind)) {
                Checks.yes(field + " is a public constant int", Modifier.isPublic(kind) && Modifier.isStatic(kind)
                        && field.getType() == int.class);
                seen.add(field.getName() + "=" + field.getInt(null));
            }
        }
        Checks.yes("the constants are " + seen, seen.equals(new TreeSet<>(CONSTANTS)));
    }

    private static void nestedClasses() {
        Class<?>[] nested = FlowComputer.class.getDeclaredClasses();
        Checks.yes("at most twelve classes, not " + (nested.length + 1), nested.length + 1 <= 12);
        for (Class<?> inside : nested) {
            int kind = inside.getModifiers();
            Checks.yes(inside + " is static and not open", Modifier.isStatic(kind) && !Modifier.isPublic(kind)
                    && !Modifier.isProtected(kind));
            long fields = Arrays.stream(inside.getDeclaredFields())
                    .filter(field -> !Modifier.isStatic(field.getModifiers())).count();
            Checks.yes(inside + " has some twenty fields, not " + fields, fields <= 20);
        }
    }

    private static void sourceText() throws IOException {
        String text = Files.readString(Path.of("src/main/java/FlowComputer.java"));
        StringBuilder code = new StringBuilder();
        for (String line : text.split("\n")) {
            String bare = line.strip();
            if (!bare.startsWith("//") && !bare.startsWith("/*") && !bare.startsWith("*")) {
                code.append(line).append('\n');
            }
        }
        for (String word : FORBIDDEN) {
            Checks.yes("the text holds no '" + word + "'", code.indexOf(word) < 0);
        }
    }
}
