import java.io.IOException;
import java.nio.file.Files;
import java.nio.file.Path;
import java.util.ArrayList;
import java.util.Arrays;
import java.util.List;
import java.util.Set;
import java.util.TreeSet;
import java.util.regex.Matcher;
import java.util.regex.Pattern;
import java.util.stream.Stream;

/** What README.md tells of the use of the class and of its tests: the program, the answers, the commands, the names. */
final class ReadmeTest {
    private static final String NEW = "FlowComputer meter = new FlowComputer();";
    private static final Pattern ANSWERED =
            Pattern.compile("(meter\\.(\\w+)\\([\\w., -]*\\));\\s+// (-?[\\w.]+|throws \\w+)(,.*)?");
    private static final List<String> HEAD = List.of("final class Answered {",
            "    private static int wrong = 0;",
            "    interface Call { Object make(); }",
            "    static void due(String what, Object want, Call call) {",
            "        String got;",
            "        try { got = String.valueOf(call.make()); }",
            "        catch (RuntimeException e) { got = \"throws \" + e.getClass().getSimpleName(); }",
            "        if (!got.equals(String.valueOf(want))) {",
            "            wrong++;",
            "            System.out.println(what + \" answered \" + got + \", the page tells \" + want);",
            "        }",
            "    }",
            "    public static void main(String[] args) {");
    private static final List<String> TAIL = List.of("        System.exit(wrong > 0 ? 1 : 0);", "    }", "}");

    private ReadmeTest() {
    }

    public static void main(String[] args) throws IOException, InterruptedException {
        program();
        answers();
        otherCommands();
        paths();
        tests();
        Checks.end();
    }

    /** The first piece of Java is a whole program, the first commands compile and run it, the text is what it prints. */
    private static void program() throws IOException, InterruptedException {
        List<String> program = Readme.pieces("java").get(0);
        Matcher head = Pattern.compile("public final class (\\w+) \\{").matcher(program.get(0));
        Checks.yes("the first piece is a program", head.matches());
        String file = head.group(1) + ".java";
        Checks.yes("the page names " + file, Readme.told("`(\\w+\\.java)`").contains(file));
        try (Shell shell = new Shell()) {
            shell.write(file, program);
            String printed = shell.run(Readme.pieces("sh").get(0));
            String due = String.join("\n", Readme.pieces("text").get(0)) + "\n";
            Checks.yes("the program printed " + printed + "due is " + due, printed.equals(due));
        }
    }

    /** Each other piece of Java begins with a new object, and each of its calls names its answer. */
    private static void answers() throws IOException, InterruptedException {
        List<List<String>> pieces = Readme.pieces("java");
        List<String> code = new ArrayList<>(HEAD);
        Set<String> called = new TreeSet<>();
        for (List<String> piece : pieces.subList(1, pieces.size())) {
            Checks.yes(piece + " begins with a new object", piece.get(0).equals(NEW));
            Checks.yes(piece + " has calls", piece.size() > 1);
            code.add("        {");
            code.add(NEW);
            for (String line : piece.subList(1, piece.size())) {
                code.add(answered(line, called));
            }
            code.add("        }");
        }
        code.addAll(TAIL);
        Checks.yes("the page calls each method, not only " + called, called.equals(publicMethods()));
        try (Shell shell = new Shell()) {
            shell.write("Answered.java", code);
            shell.run(List.of("javac -d out src/main/java/FlowComputer.java Answered.java", "java -cp out Answered"));
        }
    }

    private static String answered(String line, Set<String> called) {
        Matcher matcher = ANSWERED.matcher(line);
        if (!matcher.matches()) {
            Checks.fail("no call with its answer: " + line);
            return "";
        }
        called.add(matcher.group(2));
        String call = matcher.group(1);
        return "due(\"" + call + "\", " + asCode(matcher.group(3)) + ", () -> " + call + ");";
    }

    private static String asCode(String answer) {
        if (answer.startsWith("throws ")) {
            return "\"" + answer + "\"";
        }
        return answer.matches("-?\\d+") ? answer + "L" : answer;
    }

    private static Set<String> publicMethods() {
        Set<String> names = new TreeSet<>();
        Arrays.stream(FlowComputer.class.getMethods())
                .filter(method -> method.getDeclaringClass() == FlowComputer.class)
                .forEach(method -> names.add(method.getName()));
        return names;
    }

    /** All but .ci/run, which runs this test and would have no end. */
    private static void otherCommands() throws IOException, InterruptedException {
        Path ci = Path.of(".ci/run");
        List<List<String>> pieces = Readme.pieces("sh");
        Checks.yes("the page tells of .ci/run", pieces.contains(List.of("bash " + ci)));
        Checks.yes(".ci/run can be run", Files.isExecutable(ci));
        for (List<String> piece : pieces.subList(1, pieces.size())) {
            if (!piece.contains("bash " + ci)) {
                try (Shell shell = new Shell()) {
                    String printed = shell.run(piece);
                    Checks.yes("it tells how many checks were made: " + printed, printed.endsWith(" checks, 0 wrong\n"));
                }
            }
        }
    }

    private static void paths() throws IOException {
        List<String> paths = Readme.told("`([\\w.]+/[\\w./]+)`");
        Checks.yes("the page names files", paths.size() >= 3);
        for (String path : paths) {
            Checks.yes(path + " is there", Files.exists(Path.of(path)));
        }
    }

    private static void tests() throws IOException {
        Set<String> there = new TreeSet<>();
        StringBuilder text = new StringBuilder();
        try (Stream<Path> files = Files.list(Path.of("src/test/java"))) {
            for (Path path : files.toList()) {
                String file = path.getFileName().toString();
                if (file.endsWith("Test.java")) {
                    there.add(file.substring(0, file.length() - ".java".length()));
                }
                text.append(Files.readString(path));
            }
        }
        Set<String> told = new TreeSet<>(Readme.told("^\\| `(\\w+Test)` \\|"));
        Checks.yes("the tests are " + there + ", the page tells of " + told, there.equals(told));
        for (String method : Readme.told("`(promise\\d\\w+)`")) {
            Checks.yes("there is a test " + method, text.indexOf("void " + method + "()") >= 0);
        }
    }
}
