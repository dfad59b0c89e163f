import java.io.IOException;
import java.io.UncheckedIOException;
import java.lang.reflect.Method;
import java.lang.reflect.Modifier;
import java.nio.file.Files;
import java.nio.file.Path;
import java.util.ArrayList;
import java.util.Arrays;
import java.util.LinkedHashMap;
import java.util.List;
import java.util.Map;
import java.util.regex.Matcher;
import java.util.regex.Pattern;

/** What stands ahead of the promises, in sentences that name no boundary case. */
public final class TermsTest {
    public static void main(String[] args) throws IOException {
        Sentences.run(TermsTest.class);
    }

    @Sentence(of = "Terms", says = "Its calls: a pen lays a path, which becomes a region by one of two rules; regions are "
        + "united, met, taken off each other, moved, turned, mirrored, made wider and narrower; one asks for areas, edges, "
        + "corners, pieces, holes, contours corner by corner, strips, hatching, and how far regions are apart; and each "
        + "change can be undone.")
    static void terms_itsCalls(Checks c) {
        ScrimshawKernel k = new ScrimshawKernel();
        k.lineX(6);
        k.lineY(4);
        Cases.Act[] changes = {x -> x.close(0, 0), x -> x.addRectangle(1, 2, 1, 6, 2), x -> x.combine(2, 0, 1, 0),
            x -> x.combine(3, 0, 1, 1), x -> x.combine(4, 0, 1, 2), x -> x.combine(5, 0, 1, 3), x -> x.move(2, -9, 5),
            x -> x.turn(3, 1), x -> x.mirror(4), x -> x.grow(5, 2, 0), x -> x.shrink(5, 1, 0), x -> x.fill(4)};
        int[] dues = {24, 12, 28, 8, 16, 20, 28, 8, 16, 92, 56, 0};
        long[] was = new long[changes.length];
        for (int n = 0; n < changes.length; n++) {
            Cases.Act change = changes[n];
            // The path does not come back.
            was[n] = n == 0 ? new ScrimshawKernel().digest() : k.digest();
            c.due("change " + n, dues[n], () -> change.on(k));
        }
        c.due("area, edges, pieces and holes", "16 28 1 0",
            () -> k.area(4) + " " + k.edges(4) + " " + k.pieces(4) + " " + k.holes(4));
        c.due("contours corner by corner", "1 -6,0 0,0 0,4 -6,4 -6,3 -2,3 -2,1 -6,1",
            () -> k.contours(4) + " " + Cases.contour(k, 4, 0));
        c.due("strips", "3 -2 1 2 2", () -> k.strips(4) + " " + Cases.strip(k, 4, 1));
        c.due("hatching, and how far apart", "10 16 3",
            () -> k.hatch(4, 1, 1, 0) + " " + k.hatched(4, 1, 1, 0) + " " + k.apart(1, 4));
        for (int n = changes.length - 1; n >= 0; n--) {
            long due = was[n];
            k.undo();
            c.due("change " + n + " undone", due, () -> k.digest());
        }
    }

    @Sentence(of = "Terms", says = "All numbers are whole, if nothing else is said.")
    static void terms_allNumbersAreWhole(Checks c) {
        for (Method method : ScrimshawKernel.class.getDeclaredMethods()) {
            if (Modifier.isPublic(method.getModifiers())) {
                Class<?> answer = method.getReturnType();
                // Of the mean the document says that it is not cut.
                boolean isWhole = !method.getName().equals("middleX");
                c.due("what " + method.getName() + " answers is whole, or no number", isWhole,
                    () -> answer == int.class || answer == long.class || answer == boolean.class);
                c.due("what " + method.getName() + " takes is whole", true,
                    () -> Arrays.stream(method.getParameterTypes()).allMatch(type -> type == int.class));
            }
        }
        c.due("the mean, which is not", 0.5, () -> Cases.drawn("##").middleX(0));
    }

    @Sentence(of = "Terms", says = "x goes to the right, y upwards.")
    static void terms_xGoesToTheRightYUpwards(Checks c) {
        ScrimshawKernel k = new ScrimshawKernel();
        k.lineX(2);
        k.lineY(1);
        k.close(0, 0);
        c.due("the pen went to the right, and up", "0 0 1 0", () -> Cases.bounds(k, 0));
        k.move(0, 3, 5);
        c.due("so did the region", "3 5 4 5", () -> Cases.bounds(k, 0));
        k.turn(0, 1);
        c.due("a turn to the left takes the right upwards", "-6 3 -6 4", () -> Cases.bounds(k, 0));
        ScrimshawKernel stairs = Cases.drawn("#../##./###");
        c.due("left is where x is less, low where y is", "0,0 3,0 3,1 2,1 2,2 1,2 1,3 0,3",
            () -> Cases.contour(stairs, 0, 0));
        c.due("the lowest strip first", "0 0 3 1", () -> Cases.strip(stairs, 0, 0));
        c.due("the left one first", "0 0 1 1", () -> Cases.strip(Cases.drawn("#.##"), 0, 0));
    }

    @Sentence(of = "Terms", says = "Ahead of the calls `moveTo`, `lineX`, `lineY`, `close`, `points` the interface says: "
        + "---- the pen.")
    static void terms_aheadOfThePen(Checks c) {
        c.due("the class says", "[moveTo, lineX, lineY, close, points]", () -> callsBehind("---- the pen"));
    }

    @Sentence(of = "Terms", says = "Ahead of the calls `addRectangle`, `combine`, `move`, `turn`, `mirror`, `grow`, "
        + "`shrink`, `fill`, `keepPiece`, `clear`, `undo` the interface says: ---- changes; each can be undone.")
    static void terms_aheadOfTheChanges(Checks c) {
        c.due("the class says", "[addRectangle, combine, move, turn, mirror, grow, shrink, fill, keepPiece, clear, undo]",
            () -> callsBehind("---- changes; each can be undone"));
    }

    @Sentence(of = "Terms", says = "Ahead of the calls `area`, `edges`, `pieces`, `holes`, `has`, `bound`, `contours`, "
        + "`corners`, `cornerX`, `cornerY`, `areaOf`, `strips`, `strip`, `hatch`, `hatched`, `apart`, `isSameForm`, "
        + "`middleX`, `digest` the interface says: ---- asking.")
    static void terms_aheadOfTheAsking(Checks c) {
        c.due("the class says", "[area, edges, pieces, holes, has, bound, contours, corners, cornerX, cornerY, areaOf, "
            + "strips, strip, hatch, hatched, apart, isSameForm, middleX, digest]", () -> callsBehind("---- asking"));
        Cases.Act[] asks = {k -> k.area(0), k -> k.edges(0), k -> k.pieces(0), k -> k.holes(0), k -> k.has(0, 0, 0),
            k -> k.bound(0, 0), k -> k.contours(0), k -> k.corners(0, 0), k -> k.cornerX(0, 0, 1), k -> k.cornerY(0, 0, 1),
            k -> k.areaOf(0, 0), k -> k.strips(0), k -> k.strip(0, 0, 3), k -> k.hatch(0, 3, 2, 1), k -> k.hatched(0, 2, 2, 1),
            k -> k.apart(0, 7), k -> k.isSameForm(0, 7), k -> k.middleX(0), k -> k.digest()};
        for (int n = 0; n < asks.length; n++) {
            for (int rule = 0; rule < 2; rule++) {
                int by = rule;
                ScrimshawKernel asked = asked();
                asks[n].on(asked);
                c.due("call " + n + " is no change", Cases.everything(asked(), by), () -> Cases.everything(asked, by));
            }
        }
    }

    /** Regions 0 and 7 are rings of the same form, apart; the path has three points. */
    private static ScrimshawKernel asked() {
        ScrimshawKernel k = Cases.drawn("####/#..#/####");
        k.combine(7, 0, 0, 0);
        k.move(7, 9, -5);
        k.lineX(3);
        k.lineY(2);
        return k;
    }

    /** The face's calls between a heading of the class and its next one. */
    private static List<String> callsBehind(String heading) {
        Map<String, List<String>> calls = new LinkedHashMap<>();
        String at = "";
        Pattern said = Pattern.compile(" {4}(?:// (----.*)|public \\w+ (\\w+)\\(.*)");
        for (String line : source()) {
            Matcher found = said.matcher(line);
            if (found.matches() && found.group(1) != null) {
                at = found.group(1);
            } else if (found.matches()) {
                calls.computeIfAbsent(at, of -> new ArrayList<>()).add(found.group(2));
            }
        }
        return calls.get(heading);
    }

    private static List<String> source() {
        try {
            return Files.readAllLines(Path.of("src/main/java/ScrimshawKernel.java"));
        } catch (IOException e) {
            throw new UncheckedIOException(e);
        }
    }
}
