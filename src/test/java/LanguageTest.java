import java.io.IOException;
import java.lang.reflect.Constructor;
import java.lang.reflect.Field;
import java.lang.reflect.Method;
import java.lang.reflect.Modifier;
import java.nio.file.Files;
import java.nio.file.Path;
import java.util.Arrays;
import java.util.HashSet;
import java.util.Set;
import java.util.TreeSet;
import java.util.regex.Matcher;
import java.util.regex.Pattern;
import java.util.stream.Collectors;

/** The class's face as the document writes it, and those of LANGUAGE.md's rules that a text can be searched for. */
public final class LanguageTest {
    private static final Path SOURCE = Path.of("src/main/java/ScrimshawKernel.java");
    private static final Path DOCUMENT = Path.of("../shared/DOC.md");

    private static final Checks CHECKS = new Checks();

    public static void main(String[] args) throws IOException {
        face();
        signatures();
        members();
        String code = withoutTextsAndComments(Files.readString(SOURCE));
        words(code);
        library(code);
        methods(code);
        CHECKS.end("LanguageTest");
    }

    /** Each line of the document's face, as the class declares it. */
    private static void face() throws IOException {
        Set<String> due = new TreeSet<>();
        Matcher line = Pattern.compile("(?m)^    public (?!ScrimshawKernel)(.*);$").matcher(Files.readString(DOCUMENT));
        while (line.find()) {
            due.add(line.group(1).replaceAll("(int|long) \\w+([,)])", "$1$2"));
        }
        CHECKS.due("calls of the face", 35, due::size);
        Set<String> got = new TreeSet<>();
        for (Method method : ScrimshawKernel.class.getDeclaredMethods()) {
            if (!Modifier.isPrivate(method.getModifiers())) {
                CHECKS.due(method + " is public, and no static one", Modifier.PUBLIC, method::getModifiers);
                got.add(written(method));
            }
        }
        CHECKS.due("the face", due, () -> got);
        Constructor<?>[] constructors = ScrimshawKernel.class.getDeclaredConstructors();
        CHECKS.due("constructors", "[public ScrimshawKernel()]", () -> Arrays.toString(constructors));
    }

    /** The lines of the face, and the calls that the promises begin with, word by word: names of parameters, too. */
    private static void signatures() throws IOException {
        String source = Files.readString(SOURCE).replaceAll("\\s+", " ");
        Matcher call = Pattern.compile("(?m)^ {4}(public .*);$|^`([^`]*)`: ").matcher(Files.readString(DOCUMENT));
        int calls = 0;
        while (call.find()) {
            calls++;
            String due = call.group(1) != null ? call.group(1) : "public " + call.group(2);
            CHECKS.due(due + " stands in the class", true, () -> source.contains(" " + due + " { "));
        }
        int count = calls;
        CHECKS.due("36 lines of the face, and as many promises", 72, () -> count);
    }

    private static String written(Method method) {
        String thrown = names(method.getExceptionTypes());
        return method.getReturnType().getSimpleName() + " " + method.getName() + "(" + names(method.getParameterTypes())
            + ")" + (thrown.isEmpty() ? "" : " throws " + thrown);
    }

    private static String names(Class<?>[] types) {
        return Arrays.stream(types).map(Class::getSimpleName).collect(Collectors.joining(", "));
    }

    private static void members() {
        Class<?> kernel = ScrimshawKernel.class;
        CHECKS.due("public and final", Modifier.PUBLIC | Modifier.FINAL, kernel::getModifiers);
        CHECKS.due("no package", "", kernel::getPackageName);
        Set<String> publicNames = new HashSet<>();
        for (Method method : kernel.getDeclaredMethods()) {
            if (Modifier.isPublic(method.getModifiers())) {
                publicNames.add(method.getName());
            }
        }
        checkFields(kernel);
        checkMethods(kernel, publicNames);
        CHECKS.due("at most twelve classes", true, () -> kernel.getDeclaredClasses().length < 12);
        for (Class<?> inside : kernel.getDeclaredClasses()) {
            CHECKS.due(inside + " is private and static", true,
                () -> Modifier.isPrivate(inside.getModifiers()) && Modifier.isStatic(inside.getModifiers()));
            checkFields(inside);
            checkMethods(inside, publicNames);
        }
    }

    private static void checkFields(Class<?> of) {
        int own = 0;
        for (Field field : of.getDeclaredFields()) {
            int is = field.getModifiers();
            CHECKS.due(field + " is private", true, () -> Modifier.isPrivate(is));
            if (Modifier.isStatic(is)) {
                CHECKS.due(field + " is a constant", true,
                    () -> Modifier.isFinal(is) && field.getType().isPrimitive());
            } else {
                own++;
            }
        }
        int count = own;
        CHECKS.due(of + " has at most twenty fields", true, () -> count <= 20);
    }

    private static void checkMethods(Class<?> of, Set<String> publicNames) {
        for (Method method : of.getDeclaredMethods()) {
            CHECKS.due(method + " takes at most seven", true, () -> method.getParameterCount() <= 7);
            CHECKS.due(method + " bears no name of the face's", true,
                () -> Modifier.isPublic(method.getModifiers()) || !publicNames.contains(method.getName()));
        }
    }

    private static String withoutTextsAndComments(String source) {
        return source.replaceAll("(?s)/\\*.*?\\*/", "").replaceAll("//[^\n]*", "").replaceAll("\"[^\"\n]*\"", "\"\"");
    }

    private static void words(String code) {
        String[] none = {"->", "::", "\\bcatch\\b", "\\btry\\b", "\\bfinally\\b", "\\bsynchronized\\b", "\\bassert\\b",
            "\\bprotected\\b", "\\bnative\\b", "\\bvolatile\\b", "\\btransient\\b", "\\bvar\\b", "Exact\\b", "\\bstatic\\s*\\{",
            "\\bThread\\b", "\\bSystem\\b", "\\bObject\\b", "\\bequals\\b", "\\bhashCode\\b", "\\btoString\\b", "\\bNaN\\b",
            "\\bpackage\\b", "\\bnull\\b", "[^\\x00-\\x7f]", "\\t"};
        for (String word : none) {
            CHECKS.due("no " + word, false, () -> Pattern.compile(word).matcher(code).find());
        }
        CHECKS.due("one class that is public", 1, () -> code.split("public final class", -1).length - 1);
    }

    private static void library(String code) {
        CHECKS.due("imports", "[java.util.Arrays]", () -> found(code, "import ([\\w.]+);"));
        Set<String> fine = Set.of("Arrays.fill", "Long.bitCount", "Math.min", "Math.max");
        CHECKS.due("the library's calls", true,
            () -> fine.containsAll(found(code, "\\b((?:Arrays|Long|Integer|Math|String|List)\\.\\w+)")));
        CHECKS.due("what is thrown", "[IllegalArgumentException, IllegalStateException, IndexOutOfBoundsException]",
            () -> found(code, "throw new (\\w+)\\(\"\"\\);"));
        CHECKS.due("and nothing else", found(code, "(throw new \\w+)\\(\"\"\\);"), () -> found(code, "(throw \\w+ \\w+)"));
    }

    private static Set<String> found(String code, String pattern) {
        Set<String> found = new TreeSet<>();
        Matcher matcher = Pattern.compile(pattern).matcher(code);
        while (matcher.find()) {
            found.add(matcher.group(1));
        }
        return found;
    }

    /** A method begins with a line that ends in a brace, and ends with a brace as far in. */
    private static void methods(String code) {
        Matcher method = Pattern.compile("(?ms)^( {4}| {8})(?=[a-z])(?![^\n]*\\bclass\\b)([^\n;=]*?)\\{$.*?^\\1\\}$")
            .matcher(code);
        int count = 0;
        while (method.find()) {
            count++;
            String text = method.group();
            CHECKS.due(method.group(2) + "has at most sixty lines", true, () -> text.split("\n").length <= 60);
        }
        int methods = count;
        CHECKS.due("methods found", true, () -> methods > 100);
    }
}
