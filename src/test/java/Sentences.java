import java.io.IOException;
import java.lang.reflect.InvocationTargetException;
import java.lang.reflect.Method;
import java.nio.file.Files;
import java.nio.file.Path;
import java.util.ArrayList;
import java.util.Arrays;
import java.util.Comparator;
import java.util.LinkedHashMap;
import java.util.List;
import java.util.Map;

/** Runs the tests of a class that are named after sentences, and reads the document's sentences. */
final class Sentences {
    private static final Path DOCUMENT = Path.of("../shared/DOC.md");

    private Sentences() { }

    static void run(Class<?> tests) throws IOException {
        Map<String, String> sections = sections();
        Checks checks = new Checks();
        for (Method test : testsOf(tests)) {
            Sentence sentence = test.getAnnotation(Sentence.class);
            checks.under(test.getName() + " (\"" + sentence.says() + "\")");
            checks.due("stands in the document", true,
                () -> sections.getOrDefault(sentence.of(), "").contains(sentence.says()));
            checks.due("is named after " + sentence.of(), true, () -> test.getName().startsWith(nameOf(sentence)));
            checks.due("ran to its end", "", () -> broken(test, checks));
        }
        checks.end(tests.getSimpleName());
    }

    private static String nameOf(Sentence sentence) {
        return sentence.of().toLowerCase().replace(" ", "") + "_";
    }

    /** What a test was broken off by: nothing, if it ran to its end. */
    private static String broken(Method test, Checks checks) {
        try {
            test.invoke(null, checks);
            return "";
        } catch (InvocationTargetException e) {
            return String.valueOf(e.getCause());
        } catch (IllegalAccessException e) {
            return e.toString();
        }
    }

    static List<Method> testsOf(Class<?> tests) {
        return Arrays.stream(tests.getDeclaredMethods())
            .filter(method -> method.isAnnotationPresent(Sentence.class))
            .sorted(Comparator.comparing(Method::getName))
            .toList();
    }

    /** The document's text by its headings, the first of them its title. */
    static Map<String, String> sections() throws IOException {
        Map<String, String> sections = new LinkedHashMap<>();
        for (String section : Files.readString(DOCUMENT).split("(?m)^##? ")) {
            int end = section.indexOf('\n');
            if (end > 0) {
                String heading = section.substring(0, end);
                sections.put(heading.replaceFirst(": .*", ""), section.substring(end + 1));
            }
        }
        return sections;
    }

    /** A section's sentences, without headings inside it, and without the call that stands ahead of a promise's text. */
    static List<String> sentencesOf(String section) {
        List<String> sentences = new ArrayList<>();
        for (String line : section.split("\n")) {
            if (line.startsWith("== ")) {
                continue;
            }
            String text = line.replaceFirst("^`[^`]*`: ", "");
            for (String sentence : text.split("(?<=\\.\\)?) (?=[A-Z(/])")) {
                if (!sentence.isBlank()) {
                    sentences.add(sentence.strip());
                }
            }
        }
        return sentences;
    }
}
