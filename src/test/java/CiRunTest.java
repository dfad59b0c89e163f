import java.util.Arrays;
import java.util.List;
import java.util.function.Consumer;
import java.util.stream.Collectors;

/** .ci/run ends with 0 if all is well, and with another code if one thing is not; in small copies of the project. */
public final class CiRunTest {
    private record Case(String name, boolean isWell, Consumer<ProjectCopy> make) { }

    private static final String KERNEL = "src/main/java/ScrimshawKernel.java";
    private static final String OWN = "src/test/java/OwnTest.java";
    private static final String SHARED = "../shared/tests/Shared.java";

    private static final Checks CHECKS = new Checks();

    public static void main(String[] args) {
        List<Case> cases = List.of(
            new Case("all is well", true, copy -> { }),
            new Case("an own test ends with 1", false, copy -> copy.write(OWN, test("OwnTest", "System.exit(1);"))),
            new Case("an own test ends with 3", false, copy -> copy.write(OWN, test("OwnTest", "System.exit(3);"))),
            new Case("an own test throws", false,
                copy -> copy.write(OWN, test("OwnTest", "throw new IllegalStateException();"))),
            new Case("another own test ends with 1", false,
                copy -> copy.write("src/test/java/ATest.java", test("ATest", "System.exit(1);"))),
            new Case("an own test does not compile", false, copy -> copy.write(OWN, test("OwnTest", "none();"))),
            new Case("a shared test ends with 1", false, copy -> copy.write(SHARED, test("Shared", "System.exit(1);"))),
            new Case("a shared test ends with 3", false, copy -> copy.write(SHARED, test("Shared", "System.exit(3);"))),
            new Case("another shared test ends with 1", false,
                copy -> copy.write("../shared/tests/A.java", test("A", "System.exit(1);"))),
            new Case("a shared test does not compile", false, copy -> copy.write(SHARED, test("Shared", "none();"))),
            new Case("the class does not compile alone", false, CiRunTest::leanOnAnother),
            new Case("the class is not Java 17", false, copy -> copy.write(KERNEL,
                "public final class ScrimshawKernel { int of(Object o) { return switch (o) { case Integer i -> 1; "
                + "default -> 0; }; } }")));
        // Each of them compiles and runs on its own, so they need not wait for one another.
        List<Integer> codes = cases.parallelStream().map(CiRunTest::codeOf).collect(Collectors.toList());
        for (int n = 0; n < cases.size(); n++) {
            int code = codes.get(n);
            CHECKS.due(cases.get(n).name() + ": it ends well", cases.get(n).isWell(), () -> code == 0);
        }
        withoutSharedTests();
        CHECKS.end("CiRunTest");
    }

    private static String test(String name, String does) {
        return "public class " + name + " { public static void main(String[] args) { new ScrimshawKernel(); " + does
            + " } }";
    }

    private static void leanOnAnother(ProjectCopy copy) {
        copy.write(KERNEL, "public final class ScrimshawKernel { Other other; }");
        copy.write("src/test/java/Other.java", "final class Other { }");
        copy.write("../shared/tests/Shared.java", test("Shared", "") + " class Other { }");
    }

    private static ProjectCopy small() {
        ProjectCopy copy = new ProjectCopy(".ci");
        copy.write(KERNEL, "public final class ScrimshawKernel { }");
        copy.write(OWN, test("OwnTest", ""));
        return copy;
    }

    private static int codeOf(Case of) {
        try (ProjectCopy copy = small()) {
            copy.write(SHARED, test("Shared", ""));
            of.make().accept(copy);
            return copy.run(".ci/run").code();
        }
    }

    private static void withoutSharedTests() {
        try (ProjectCopy copy = small()) {
            CHECKS.due("no ../shared/tests: it ends well", false, () -> copy.run(".ci/run").code() == 0);
        }
        try (ProjectCopy copy = small()) {
            copy.write(SHARED, test("Shared", ""));
            String[] places = {"cd / && \"$OLDPWD\"/.ci/run", "cd .ci && ./run", "bash .ci/run"};
            CHECKS.due("from wherever it is called: it ends well", "[0, 0, 0]",
                () -> Arrays.stream(places).map(place -> copy.run(place).code()).collect(Collectors.toList()));
        }
    }
}
