import java.util.ArrayDeque;
import java.util.ArrayList;
import java.util.Arrays;
import java.util.Comparator;
import java.util.Deque;
import java.util.HashSet;
import java.util.List;
import java.util.Set;

/**
 * The document once more, field by field and edge by edge, as plainly as its words go: slow, and with nothing in
 * common with the program. The exceptions are thrown in the document's order.
 */
final class Model {
    static final int LEAST = -32;
    static final int GREATEST = 31;
    private static final int BEYOND = 44;
    private static final int[][] BY_SIDES = {{1, 0}, {-1, 0}, {0, 1}, {0, -1}};
    private static final int[][] BY_POINTS = {{1, 0}, {-1, 0}, {0, 1}, {0, -1}, {1, 1}, {1, -1}, {-1, 1}, {-1, -1}};

    private record Field(int x, int y) { }

    private record Change(int region, Set<Field> was) { }

    private record Edge(int x, int y, int wayX, int wayY) {
        int endX() {
            return x + wayX;
        }

        int endY() {
            return y + wayY;
        }
    }

    private record Contour(List<int[]> corners, int areaOf) { }

    private final List<Set<Field>> regions = new ArrayList<>();
    private final List<int[]> path = new ArrayList<>();
    private final Deque<Change> changes = new ArrayDeque<>();

    Model() {
        for (int k = 0; k < 8; k++) {
            regions.add(new HashSet<>());
        }
        path.add(new int[] {0, 0});
    }

    private void region(int region) {
        if (region < 0 || region > 7) {
            throw new IndexOutOfBoundsException();
        }
    }

    private static void argument(boolean isFine) {
        if (!isFine) {
            throw new IllegalArgumentException();
        }
    }

    private static void state(boolean isFine) {
        if (!isFine) {
            throw new IllegalStateException();
        }
    }

    private static boolean isIn(int value, int least, int greatest) {
        return least <= value && value <= greatest;
    }

    private static boolean fits(Set<Field> fields) {
        return fields.stream().allMatch(f -> isIn(f.x, LEAST, GREATEST) && isIn(f.y, LEAST, GREATEST));
    }

    private int change(int region, Set<Field> fields) {
        changes.addLast(new Change(region, regions.get(region)));
        if (changes.size() > 12) {
            changes.removeFirst();
        }
        regions.set(region, fields);
        return fields.size();
    }

    int moveTo(int x, int y) {
        argument(isIn(x, -24, 24) && isIn(y, -24, 24));
        int had = path.size();
        path.clear();
        path.add(new int[] {x, y});
        return had;
    }

    int lineX(int by) {
        return line(by, 0);
    }

    int lineY(int by) {
        return line(by, 1);
    }

    private int line(int by, int axis) {
        int[] at = path.get(path.size() - 1);
        long to = (long) at[axis] + by;
        argument(to >= -24 && to <= 24);
        state(by == 0 || path.size() < 60);
        if (by != 0) {
            int[] next = at.clone();
            next[axis] = (int) to;
            path.add(next);
        }
        return (int) to;
    }

    int close(int region, int rule) {
        region(region);
        argument(isIn(rule, 0, 1));
        int[] first = path.get(0);
        int[] last = path.get(path.size() - 1);
        List<int[]> closed = new ArrayList<>(path);
        closed.add(new int[] {first[0], last[1]});
        closed.add(first);
        Set<Field> inside = new HashSet<>();
        for (int x = -25; x <= 25; x++) {
            for (int y = -25; y <= 25; y++) {
                if (isInside(closed, x + 0.5, y + 0.5, rule)) {
                    inside.add(new Field(x, y));
                }
            }
        }
        path.clear();
        path.add(first);
        return change(region, inside);
    }

    private static boolean isInside(List<int[]> closed, double x, double y, int rule) {
        int upwards = 0;
        int downwards = 0;
        for (int k = 1; k < closed.size(); k++) {
            int[] from = closed.get(k - 1);
            int[] to = closed.get(k);
            if (from[0] > x && from[1] < y && to[1] > y) {
                upwards++;
            }
            if (from[0] > x && from[1] > y && to[1] < y) {
                downwards++;
            }
        }
        return rule == 0 ? (upwards + downwards) % 2 == 1 : upwards != downwards;
    }

    int points() {
        return path.size();
    }

    int addRectangle(int region, int x, int y, int width, int height) {
        region(region);
        argument(isIn(width, 1, 64) && isIn(height, 1, 64));
        state(x >= LEAST && y >= LEAST && (long) x + width <= 32 && (long) y + height <= 32);
        Set<Field> fields = new HashSet<>(regions.get(region));
        for (int i = 0; i < width; i++) {
            for (int j = 0; j < height; j++) {
                fields.add(new Field(x + i, y + j));
            }
        }
        return change(region, fields);
    }

    int combine(int region, int one, int other, int operation) {
        region(region);
        region(one);
        region(other);
        argument(isIn(operation, 0, 3));
        Set<Field> fields = new HashSet<>();
        for (Field f : everyField(0)) {
            boolean a = regions.get(one).contains(f);
            boolean b = regions.get(other).contains(f);
            boolean[] answers = {a || b, a && b, a && !b, a != b};
            if (answers[operation]) {
                fields.add(f);
            }
        }
        return change(region, fields);
    }

    private static List<Field> everyField(int beyond) {
        List<Field> fields = new ArrayList<>();
        for (int y = LEAST - beyond; y <= GREATEST + beyond; y++) {
            for (int x = LEAST - beyond; x <= GREATEST + beyond; x++) {
                fields.add(new Field(x, y));
            }
        }
        return fields;
    }

    int move(int region, int byX, int byY) {
        region(region);
        argument(isIn(byX, -64, 64) && isIn(byY, -64, 64));
        Set<Field> fields = new HashSet<>();
        for (Field f : regions.get(region)) {
            fields.add(new Field(f.x + byX, f.y + byY));
        }
        state(fits(fields));
        return change(region, fields);
    }

    /** The field whose middle is where the turned middle is, in halves. */
    int turn(int region, int quarters) {
        region(region);
        argument(isIn(quarters, 0, 3));
        int[][] turns = {{1, 0}, {0, 1}, {-1, 0}, {0, -1}};
        int cos = turns[quarters][0];
        int sin = turns[quarters][1];
        Set<Field> fields = new HashSet<>();
        for (Field f : regions.get(region)) {
            int x = 2 * f.x + 1;
            int y = 2 * f.y + 1;
            fields.add(new Field((x * cos - y * sin - 1) / 2, (x * sin + y * cos - 1) / 2));
        }
        return change(region, fields);
    }

    int mirror(int region) {
        region(region);
        Set<Field> fields = new HashSet<>();
        for (Field f : regions.get(region)) {
            fields.add(new Field((-(2 * f.x + 1) - 1) / 2, f.y));
        }
        return change(region, fields);
    }

    int grow(int region, int by, int kind) {
        region(region);
        argument(isIn(by, 0, 8) && isIn(kind, 0, 1));
        Set<Field> fields = new HashSet<>();
        for (Field f : regions.get(region)) {
            addNear(fields, f, by, kind);
        }
        state(fits(fields));
        return change(region, fields);
    }

    private static void addNear(Set<Field> fields, Field f, int by, int kind) {
        for (int i = -by; i <= by; i++) {
            for (int j = -by; j <= by; j++) {
                int far = kind == 0 ? Math.max(Math.abs(i), Math.abs(j)) : Math.abs(i) + Math.abs(j);
                if (far <= by) {
                    fields.add(new Field(f.x + i, f.y + j));
                }
            }
        }
    }

    int shrink(int region, int by, int kind) {
        region(region);
        argument(isIn(by, 0, 8) && isIn(kind, 0, 1));
        Set<Field> near = new HashSet<>();
        near.add(new Field(0, 0));
        addNear(near, new Field(0, 0), by, kind);
        Set<Field> was = regions.get(region);
        Set<Field> fields = new HashSet<>();
        for (Field f : was) {
            if (near.stream().allMatch(n -> was.contains(new Field(f.x + n.x, f.y + n.y)))) {
                fields.add(f);
            }
        }
        return change(region, fields);
    }

    private static List<Set<Field>> parts(Set<Field> of, int[][] steps) {
        Set<Field> rest = new HashSet<>(of);
        List<Set<Field>> parts = new ArrayList<>();
        for (Field f : of) {
            if (rest.remove(f)) {
                Set<Field> part = new HashSet<>();
                Deque<Field> toDo = new ArrayDeque<>();
                toDo.add(f);
                while (!toDo.isEmpty()) {
                    Field at = toDo.remove();
                    part.add(at);
                    for (int[] step : steps) {
                        Field next = new Field(at.x + step[0], at.y + step[1]);
                        if (rest.remove(next)) {
                            toDo.add(next);
                        }
                    }
                }
                parts.add(part);
            }
        }
        return parts;
    }

    private static List<Set<Field>> holesOf(Set<Field> fields) {
        Set<Field> outside = new HashSet<>(everyField(1));
        outside.removeAll(fields);
        List<Set<Field>> parts = parts(outside, BY_POINTS);
        parts.removeIf(part -> part.contains(new Field(LEAST - 1, LEAST - 1)));
        return parts;
    }

    int fill(int region) {
        region(region);
        List<Set<Field>> holes = holesOf(regions.get(region));
        Set<Field> fields = new HashSet<>(regions.get(region));
        holes.forEach(fields::addAll);
        change(region, fields);
        return holes.size();
    }

    int keepPiece(int region, int x, int y) {
        region(region);
        Set<Field> kept = new HashSet<>();
        for (Set<Field> piece : parts(regions.get(region), BY_SIDES)) {
            if (piece.contains(new Field(x, y))) {
                kept = piece;
            }
        }
        return change(region, kept);
    }

    int clear(int region) {
        region(region);
        int had = regions.get(region).size();
        change(region, new HashSet<>());
        return had;
    }

    int undo() {
        if (changes.isEmpty()) {
            return -1;
        }
        Change change = changes.removeLast();
        regions.set(change.region, change.was);
        return change.region;
    }

    int area(int region) {
        region(region);
        return regions.get(region).size();
    }

    int edges(int region) {
        region(region);
        return edgesOf(regions.get(region)).size();
    }

    int pieces(int region) {
        region(region);
        return parts(regions.get(region), BY_SIDES).size();
    }

    int holes(int region) {
        region(region);
        return holesOf(regions.get(region)).size();
    }

    boolean has(int region, int x, int y) {
        region(region);
        return regions.get(region).contains(new Field(x, y));
    }

    int bound(int region, int side) {
        region(region);
        argument(isIn(side, 0, 3));
        Set<Field> fields = regions.get(region);
        switch (side) {
            case 0:
                return fields.stream().mapToInt(Field::x).min().orElse(0);
            case 1:
                return fields.stream().mapToInt(Field::y).min().orElse(0);
            case 2:
                return fields.stream().mapToInt(Field::x).max().orElse(0);
            default:
                return fields.stream().mapToInt(Field::y).max().orElse(0);
        }
    }

    private static List<Edge> edgesOf(Set<Field> fields) {
        List<Edge> edges = new ArrayList<>();
        for (Field f : fields) {
            if (!fields.contains(new Field(f.x, f.y - 1))) {
                edges.add(new Edge(f.x, f.y, 1, 0));
            }
            if (!fields.contains(new Field(f.x + 1, f.y))) {
                edges.add(new Edge(f.x + 1, f.y, 0, 1));
            }
            if (!fields.contains(new Field(f.x, f.y + 1))) {
                edges.add(new Edge(f.x + 1, f.y + 1, -1, 0));
            }
            if (!fields.contains(new Field(f.x - 1, f.y))) {
                edges.add(new Edge(f.x, f.y + 1, 0, -1));
            }
        }
        return edges;
    }

    private static List<Contour> contoursOf(Set<Field> fields) {
        Set<Edge> rest = new HashSet<>(edgesOf(fields));
        Set<Edge> every = new HashSet<>(rest);
        List<Contour> contours = new ArrayList<>();
        while (!rest.isEmpty()) {
            Edge first = rest.iterator().next();
            List<Edge> row = new ArrayList<>();
            Edge at = first;
            do {
                row.add(at);
                rest.remove(at);
                at = next(every, at);
            } while (!at.equals(first));
            contours.add(contourOf(row));
        }
        contours.sort(Comparator.<Contour>comparingInt(c -> c.corners.get(0)[1])
            .thenComparingInt(c -> c.corners.get(0)[0]));
        return contours;
    }

    private static Edge next(Set<Edge> every, Edge at) {
        Edge left = new Edge(at.endX(), at.endY(), -at.wayY, at.wayX);
        Edge on = new Edge(at.endX(), at.endY(), at.wayX, at.wayY);
        Edge right = new Edge(at.endX(), at.endY(), at.wayY, -at.wayX);
        return every.contains(left) ? left : every.contains(on) ? on : right;
    }

    private static Contour contourOf(List<Edge> row) {
        List<int[]> corners = new ArrayList<>();
        int areaOf = 0;
        Edge ahead = row.get(row.size() - 1);
        for (Edge edge : row) {
            if (edge.wayX != ahead.wayX || edge.wayY != ahead.wayY) {
                corners.add(new int[] {edge.x, edge.y});
            }
            areaOf += edge.x * edge.wayY;
            ahead = edge;
        }
        int first = 0;
        for (int k = 1; k < corners.size(); k++) {
            int[] a = corners.get(k);
            int[] b = corners.get(first);
            if (a[1] < b[1] || a[1] == b[1] && a[0] < b[0]) {
                first = k;
            }
        }
        java.util.Collections.rotate(corners, -first);
        return new Contour(corners, areaOf);
    }

    private Contour contour(int region, int contour) {
        region(region);
        List<Contour> contours = contoursOf(regions.get(region));
        if (contour < 0 || contour >= contours.size()) {
            throw new IndexOutOfBoundsException();
        }
        return contours.get(contour);
    }

    private int[] corner(int region, int contour, int corner) {
        List<int[]> corners = contour(region, contour).corners;
        if (corner < 0 || corner >= corners.size()) {
            throw new IndexOutOfBoundsException();
        }
        return corners.get(corner);
    }

    int contours(int region) {
        region(region);
        return contoursOf(regions.get(region)).size();
    }

    int corners(int region, int contour) {
        return contour(region, contour).corners.size();
    }

    int cornerX(int region, int contour, int corner) {
        return corner(region, contour, corner)[0];
    }

    int cornerY(int region, int contour, int corner) {
        return corner(region, contour, corner)[1];
    }

    int areaOf(int region, int contour) {
        return contour(region, contour).areaOf;
    }

    /** The rows of a y, each as its first x and its last one. */
    private static List<List<Integer>> rowsOf(Set<Field> fields, int y) {
        List<List<Integer>> rows = new ArrayList<>();
        for (int x = LEAST; x <= GREATEST; x++) {
            if (fields.contains(new Field(x, y)) && !fields.contains(new Field(x - 1, y))) {
                int last = x;
                while (fields.contains(new Field(last + 1, y))) {
                    last++;
                }
                rows.add(Arrays.asList(x, last));
            }
        }
        return rows;
    }

    private static List<int[]> stripsOf(Set<Field> fields) {
        List<int[]> strips = new ArrayList<>();
        List<List<List<Integer>>> rows = new ArrayList<>();
        for (int y = LEAST; y <= GREATEST; y++) {
            rows.add(rowsOf(fields, y));
        }
        for (int k = 0; k < rows.size(); k++) {
            for (List<Integer> row : rows.get(k)) {
                if (k == 0 || !rows.get(k - 1).contains(row)) {
                    int above = k;
                    while (above < rows.size() && rows.get(above).contains(row)) {
                        above++;
                    }
                    strips.add(new int[] {row.get(0), LEAST + k, row.get(1) - row.get(0) + 1, above - k});
                }
            }
        }
        return strips;
    }

    int strips(int region) {
        region(region);
        return stripsOf(regions.get(region)).size();
    }

    int strip(int region, int strip, int what) {
        region(region);
        List<int[]> strips = stripsOf(regions.get(region));
        if (strip < 0 || strip >= strips.size()) {
            throw new IndexOutOfBoundsException();
        }
        argument(isIn(what, 0, 3));
        return strips.get(strip)[what];
    }

    int hatch(int region, int kind, int every, int first) {
        return hatching(region, kind, every, first)[0];
    }

    int hatched(int region, int kind, int every, int first) {
        return hatching(region, kind, every, first)[1];
    }

    private int[] hatching(int region, int kind, int every, int first) {
        region(region);
        argument(isIn(kind, 0, 3) && isIn(every, 1, 20) && isIn(first, -100, 100));
        int rows = 0;
        int count = 0;
        int from = first;
        while (from > -200) {
            from -= every;
        }
        for (int number = from; number < 200; number += every) {
            boolean wasIn = false;
            for (int along = -BEYOND; along <= BEYOND; along++) {
                Field[] fields = {
                    new Field(along, number),
                    new Field(number, along),
                    new Field(along, number - along),
                    new Field(along, along - number)};
                boolean isIn = regions.get(region).contains(fields[kind]);
                rows += isIn && !wasIn ? 1 : 0;
                count += isIn ? 1 : 0;
                wasIn = isIn;
            }
        }
        return new int[] {rows, count};
    }

    int apart(int one, int other) {
        region(one);
        region(other);
        if (regions.get(one).isEmpty() || regions.get(other).isEmpty()) {
            return -1;
        }
        for (int distance = 0; distance < 64; distance++) {
            for (Field f : regions.get(one)) {
                if (isAt(regions.get(other), f, distance)) {
                    return distance;
                }
            }
        }
        throw new AssertionError("no distance");
    }

    /** Whether a field of these is just so far. */
    private static boolean isAt(Set<Field> fields, Field f, int distance) {
        for (int k = -distance; k <= distance; k++) {
            if (fields.contains(new Field(f.x + k, f.y - distance))
                    || fields.contains(new Field(f.x + k, f.y + distance))
                    || fields.contains(new Field(f.x - distance, f.y + k))
                    || fields.contains(new Field(f.x + distance, f.y + k))) {
                return true;
            }
        }
        return false;
    }

    boolean isSameForm(int one, int other) {
        region(one);
        region(other);
        return formOf(one).equals(formOf(other));
    }

    private Set<Field> formOf(int region) {
        int leastX = bound(region, 0);
        int leastY = bound(region, 1);
        Set<Field> form = new HashSet<>();
        for (Field f : regions.get(region)) {
            form.add(new Field(f.x - leastX, f.y - leastY));
        }
        return form;
    }

    double middleX(int region) {
        region(region);
        return regions.get(region).stream().mapToInt(Field::x).average().orElse(0);
    }

    long digest() {
        List<Long> values = new ArrayList<>();
        values.add((long) points());
        for (int region = 0; region < 8; region++) {
            values.add((long) area(region));
            values.add((long) edges(region));
            values.add((long) pieces(region));
            values.add((long) holes(region));
            for (int side = 0; side < 4; side++) {
                values.add((long) bound(region, side));
            }
            List<Contour> contours = contoursOf(regions.get(region));
            values.add((long) contours.size());
            for (Contour contour : contours) {
                values.add((long) contour.corners.size());
                values.add((long) contour.areaOf);
                values.add((long) contour.corners.get(0)[0]);
                values.add((long) contour.corners.get(0)[1]);
            }
            List<int[]> strips = stripsOf(regions.get(region));
            values.add((long) strips.size());
            for (int[] strip : strips) {
                for (int value : strip) {
                    values.add((long) value);
                }
            }
        }
        values.add((long) changes.size());
        long d = 2543;
        for (long value : values) {
            d = d * 31 + value;
        }
        return d;
    }
}
