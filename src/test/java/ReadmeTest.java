import java.io.IOException;
import java.lang.reflect.Method;
import java.lang.reflect.Modifier;
import java.nio.file.Files;
import java.nio.file.Path;
import java.util.ArrayList;
import java.util.List;
import java.util.Set;
import java.util.TreeSet;
import java.util.regex.Matcher;
import java.util.regex.Pattern;

/** README.md: the calls that it shows compile, and answer as it says; the commands that it names do what it says. */
public final class ReadmeTest {
    private static final Path README = Path.of("README.md");
    private static final Pattern CALL = Pattern.compile("(kernel\\.(\\w+)\\(.*\\)); +// ([^:]+)(: .*)?");

    private static final Checks CHECKS = new Checks();

    private final List<String> shown = new ArrayList<>();
    private final List<String> commands = new ArrayList<>();

    public static void main(String[] args) throws IOException {
        ReadmeTest test = new ReadmeTest();
        test.read();
        test.everyCallIsShown();
        test.callsAnswerAsShown();
        test.commandsRun();
        CHECKS.end("ReadmeTest");
    }

    /** What stands between the fences is one program; a line that is set in by four is a command. */
    private void read() throws IOException {
        boolean isProgram = false;
        for (String line : Files.readAllLines(README)) {
            if (line.startsWith("```")) {
                isProgram = line.equals("```java");
            } else if (isProgram) {
                shown.add(line);
            } else if (line.startsWith("    ")) {
                commands.add(line.strip());
            }
        }
    }

    private void everyCallIsShown() {
        Set<String> due = new TreeSet<>();
        for (Method method : ScrimshawKernel.class.getDeclaredMethods()) {
            if (Modifier.isPublic(method.getModifiers())) {
                due.add(method.getName());
            }
        }
        Set<String> got = new TreeSet<>();
        for (String line : shown) {
            Matcher call = CALL.matcher(line);
            boolean isCall = call.matches();
            CHECKS.due(line + " makes the kernel, or is a call with its answer", true,
                () -> isCall || line.equals("ScrimshawKernel kernel = new ScrimshawKernel();"));
            if (isCall) {
                got.add(call.group(2));
            }
        }
        CHECKS.due("the calls of the face that are shown", due, () -> got);
    }

    private void callsAnswerAsShown() {
        StringBuilder asShown = new StringBuilder();
        StringBuilder told = new StringBuilder();
        List<String> dues = new ArrayList<>();
        List<String> calls = new ArrayList<>();
        for (String line : shown) {
            Matcher call = CALL.matcher(line);
            asShown.append(line).append('\n');
            if (call.matches()) {
                calls.add(call.group(1));
                dues.add(call.group(3));
                told.append("try { System.out.println(").append(call.group(1)).append("); }\n")
                    .append("catch (RuntimeException e) { System.out.println(\"throws \" + ")
                    .append("e.getClass().getSimpleName()); }\n");
            } else {
                told.append(line).append('\n');
            }
        }
        String[] answers = answers(asShown.toString(), told.toString());
        CHECKS.due("as many answers as calls", calls.size(), () -> answers.length);
        for (int n = 0; n < calls.size() && n < answers.length; n++) {
            String answer = answers[n];
            CHECKS.due(calls.get(n), dues.get(n), () -> answer);
        }
    }

    /** The program is compiled just as it is shown, and once more so that it tells its answers. */
    private static String[] answers(String asShown, String told) {
        try (ProjectCopy copy = new ProjectCopy("src/main")) {
            copy.write("Shown.java", "final class Shown { static void asShown() {\n" + asShown + "}\n"
                + "public static void main(String[] args) {\n" + told + "} }\n");
            ProjectCopy.Ended compiled = copy.run("javac -d out src/main/java/ScrimshawKernel.java Shown.java");
            CHECKS.due("the calls compile", "0 ", () -> compiled.code() + " " + compiled.written());
            return copy.run("java -cp out Shown").written().split("\n");
        }
    }

    private void commandsRun() {
        CHECKS.due("one command runs all tests", 1L, () -> commands.stream().filter(".ci/run"::equals).count());
        CHECKS.due("others run one test, or compile", true, () -> commands.size() > 2);
        for (String command : commands) {
            if (command.equals(".ci/run")) {
                runsAllTests(command);
            } else {
                endsWell(command);
            }
        }
    }

    private static void endsWell(String command) {
        try (ProjectCopy copy = new ProjectCopy("src")) {
            ProjectCopy.Ended ended = copy.run(command);
            CHECKS.due(command + " ends well", 0, ended::code);
            Matcher test = Pattern.compile("java -cp \\w+ (\\w+)").matcher(command);
            if (test.find()) {
                CHECKS.due(command + " runs " + test.group(1), true,
                    () -> ended.written().contains(test.group(1) + ": ") && ended.written().contains(" 0 not"));
            }
        }
    }

    /** With small tests in place of these: it runs this one, too. */
    private static void runsAllTests(String command) {
        try (ProjectCopy copy = new ProjectCopy(".ci", "src/main")) {
            String[] own = {"First", "Second"};
            for (String name : own) {
                copy.write("src/test/java/" + name + "Test.java", "public final class " + name + "Test {"
                    + "public static void main(String[] args) {"
                    + "System.out.println(\"" + name + " of one \" + new ScrimshawKernel().points()); } }");
            }
            copy.write("../shared/tests/Third.java", "public class Third { public static void main(String[] args) {"
                + "System.out.println(\"Third of one \" + new ScrimshawKernel().points()); } }");
            ProjectCopy.Ended ended = copy.run(command);
            CHECKS.due(command + " ends well", 0, ended::code);
            String[] all = {"First", "Second", "Third"};
            for (String name : all) {
                CHECKS.due(command + " runs " + name, true, () -> ended.written().contains(name + " of one 1\n"));
            }
        }
    }
}
