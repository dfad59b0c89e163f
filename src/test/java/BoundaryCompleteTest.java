import java.io.IOException;
import java.lang.reflect.Method;
import java.util.ArrayList;
import java.util.HashMap;
import java.util.HashSet;
import java.util.List;
import java.util.Map;
import java.util.Set;

/** Each sentence of the document has tests that are named after it, and quote all of it, but for what names no case. */
public final class BoundaryCompleteTest {
    private static final Class<?>[] TESTS = {TermsTest.class, BoundaryTermsTest.class, ParametersTest.class,
        BoundaryPenTest.class, BoundaryChangesTest.class, BoundaryAskingTest.class};

    /** What is free, or says no more than other sentences do; / stands nowhere else in the document. */
    private static final Set<String> NO_CASE = Set.of("A kernel for drawings that go along the two axes.",
        "what later calls answer is free.", "/ is cut towards 0",
        "How the state is held inside the object is free, as are the speed of each call, the text of toString and the "
            + "behaviour of equals and hashCode.",
        "Use of one object from several threads at once is not promised to be safe.",
        "Nothing is promised beyond the answers and state changes described above, and nothing about an object after its "
            + "512th call.");

    private static final Checks CHECKS = new Checks();

    public static void main(String[] args) throws IOException {
        Map<String, List<String>> said = new HashMap<>();
        Set<String> names = new HashSet<>();
        for (Class<?> tests : TESTS) {
            for (Method test : Sentences.testsOf(tests)) {
                Sentence sentence = test.getAnnotation(Sentence.class);
                List<String> ofHeading = said.computeIfAbsent(sentence.of(), of -> new ArrayList<>());
                boolean isNew = names.add(test.getName()) && !ofHeading.contains(sentence.says());
                CHECKS.due(test.getName() + " is the only test of its name and sentence", true, () -> isNew);
                ofHeading.add(sentence.says());
            }
        }
        Map<String, String> sections = Sentences.sections();
        int promises = 0;
        for (Map.Entry<String, String> section : sections.entrySet()) {
            promises += section.getKey().startsWith("Promise ") ? 1 : 0;
            // Of the face, LanguageTest looks for each line.
            if (!section.getKey().equals("The public face")) {
                check(section.getKey(), section.getValue(), said.getOrDefault(section.getKey(), List.of()));
            }
        }
        int count = promises;
        CHECKS.due("promises", 36, () -> count);
        CHECKS.end("BoundaryCompleteTest");
    }

    private static void check(String heading, String section, List<String> said) {
        for (String sentence : Sentences.sentencesOf(section)) {
            CHECKS.due(heading + ", \"" + sentence + "\" has no test for", "", () -> withoutTest(sentence, said));
        }
    }

    /** What is left of a sentence behind all that is quoted of it; signs alone need no test. */
    private static String withoutTest(String sentence, List<String> said) {
        boolean[] isSaid = new boolean[sentence.length()];
        for (String says : said) {
            mark(isSaid, says.contains(sentence) ? 0 : sentence.indexOf(says), Math.min(says.length(), sentence.length()));
        }
        for (String free : NO_CASE) {
            mark(isSaid, sentence.indexOf(free), free.length());
        }
        StringBuilder left = new StringBuilder();
        for (int at = sentence.startsWith("- `") ? sentence.indexOf("`: ") : 0; at < sentence.length(); at++) {
            left.append(isSaid[at] ? "" : sentence.substring(at, at + 1));
        }
        return left.toString().matches("\\W*") ? "" : left.toString();
    }

    private static void mark(boolean[] isSaid, int from, int length) {
        for (int at = from; from >= 0 && at < from + length; at++) {
            isSaid[at] = true;
        }
    }
}
