import java.io.IOException;
import java.lang.reflect.Method;
import java.util.HashMap;
import java.util.HashSet;
import java.util.Map;
import java.util.Set;

/** Each sentence of the document has a boundary test of its own, but those that name no case. */
public final class BoundaryCompleteTest {
    private static final Class<?>[] TESTS = {BoundaryTermsTest.class, BoundaryPenTest.class, BoundaryChangesTest.class,
        BoundaryAskingTest.class};

    /** How sentences begin that name no case: they say what the words mean, or what is free. */
    private static final String[] NO_CASE = {"Its calls: ", "All numbers are whole", "/ is cut", "Ahead of the calls ",
        "Computes a checksum.", "- `"};

    private static final Checks CHECKS = new Checks();

    public static void main(String[] args) throws IOException {
        Map<String, Set<String>> said = new HashMap<>();
        Set<String> names = new HashSet<>();
        for (Class<?> tests : TESTS) {
            for (Method test : Sentences.testsOf(tests)) {
                Sentence sentence = test.getAnnotation(Sentence.class);
                boolean isNew = said.computeIfAbsent(sentence.of(), of -> new HashSet<>()).add(sentence.says());
                CHECKS.due(test.getName() + " is the only test of its name and sentence", true,
                    () -> names.add(test.getName()) && isNew);
            }
        }
        Map<String, String> sections = Sentences.sections();
        int promises = 0;
        for (Map.Entry<String, String> section : sections.entrySet()) {
            if (section.getKey().startsWith("Promise ")) {
                promises++;
            }
            if (section.getKey().startsWith("Promise ") || section.getKey().equals("Terms")) {
                check(section.getKey(), section.getValue(), said.getOrDefault(section.getKey(), Set.of()));
            }
        }
        int count = promises;
        CHECKS.due("promises", 36, () -> count);
        CHECKS.end("BoundaryCompleteTest");
    }

    private static void check(String heading, String section, Set<String> said) {
        for (String sentence : Sentences.sentencesOf(section)) {
            if (!namesNoCase(sentence)) {
                CHECKS.due(heading + ", \"" + sentence + "\" has a test", true,
                    () -> said.stream().anyMatch(says -> says.contains(sentence) || sentence.contains(says)));
            }
        }
    }

    private static boolean namesNoCase(String sentence) {
        for (String begins : NO_CASE) {
            if (sentence.startsWith(begins)) {
                return true;
            }
        }
        return false;
    }
}
