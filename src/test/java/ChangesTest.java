/** Promises 7 to 17: the changes, and undo. */
public final class ChangesTest {
    private static final Class<IllegalArgumentException> ARGUMENT = IllegalArgumentException.class;
    private static final Class<IllegalStateException> STATE = IllegalStateException.class;
    private static final Class<IndexOutOfBoundsException> INDEX = IndexOutOfBoundsException.class;
    private static final int MIN = Integer.MIN_VALUE;
    private static final int MAX = Integer.MAX_VALUE;

    private static final Checks CHECKS = new Checks();

    public static void main(String[] args) {
        addRectangle();
        addRectangleRefuses();
        combine();
        combineRefuses();
        move();
        moveRefuses();
        turn();
        mirror();
        grow();
        growRefuses();
        shrink();
        fill();
        keepPiece();
        clear();
        undoTakesEachChangeBack();
        undoKeepsTwelve();
        undoCountsWhatChangesNothing();
        undoLeavesThePen();
        CHECKS.end("ChangesTest");
    }

    private static void due(String what, Object want, Checks.Call call) {
        CHECKS.due(what, want, call);
    }

    private static ScrimshawKernel with(String drawing) {
        ScrimshawKernel k = new ScrimshawKernel();
        Checks.draw(k, 0, 0, 0, drawing);
        return k;
    }

    private static String bounds(ScrimshawKernel k, int region) {
        return k.bound(region, 0) + " " + k.bound(region, 1) + " " + k.bound(region, 2) + " " + k.bound(region, 3);
    }

    private static void addRectangle() {
        ScrimshawKernel k = new ScrimshawKernel();
        due("7: its area", 6, () -> k.addRectangle(0, 1, 2, 3, 2));
        due("7: its fields", "...../.###./.###./.....", () -> Checks.drawn(k, 0, 0, 1, 5, 4));
        due("7: united with one upon it", 11, () -> k.addRectangle(0, 3, 3, 3, 2));
        due("7: both", "..###/#####/###..", () -> Checks.drawn(k, 0, 1, 2, 5, 3));
        due("7: one in it", 11, () -> k.addRectangle(0, 1, 2, 1, 1));
        due("7: others stay", 0, () -> k.area(1));
        due("7: the greatest", 4096, () -> k.addRectangle(1, -32, -32, 64, 64));
        due("7: from -32 to 31", "-32 -32 31 31", () -> bounds(k, 1));
        due("7: a row", 64, () -> k.addRectangle(2, -32, 31, 64, 1));
        due("7: a column", 127, () -> k.addRectangle(2, 31, -32, 1, 64));
        due("7: the corners", "true true true false",
            () -> k.has(2, -32, 31) + " " + k.has(2, 31, 31) + " " + k.has(2, 31, -32) + " " + k.has(2, -32, -32));
        due("7: one field", 1, () -> k.addRectangle(3, -32, -32, 1, 1));
    }

    private static void addRectangleRefuses() {
        ScrimshawKernel k = new ScrimshawKernel();
        k.addRectangle(0, 0, 0, 2, 2);
        int[][] sizes = {{0, 1}, {1, 0}, {65, 1}, {1, 65}, {-1, 1}, {1, MIN}, {MAX, 1}};
        for (int[] size : sizes) {
            CHECKS.refused("7: " + size[0] + " by " + size[1], ARGUMENT, k,
                () -> k.addRectangle(0, -32, -32, size[0], size[1]));
        }
        int[][] places = {{-33, 0, 1, 1}, {0, -33, 1, 1}, {32, 0, 1, 1}, {0, 32, 1, 1}, {31, 0, 2, 1}, {0, 31, 1, 2},
            {-31, 0, 64, 1}, {0, -31, 1, 64}, {MAX, 0, 64, 64}, {0, MAX, 64, 64}, {MIN, 0, 1, 1}, {0, MIN, 1, 1}};
        for (int[] p : places) {
            CHECKS.refused("7: at " + p[0] + ", " + p[1] + " " + p[2] + " by " + p[3], STATE, k,
                () -> k.addRectangle(0, p[0], p[1], p[2], p[3]));
        }
        CHECKS.refused("7: no region 8", INDEX, k, () -> k.addRectangle(8, 0, 0, 1, 1));
        CHECKS.refused("7: no region -1, first of all", INDEX, k, () -> k.addRectangle(-1, 99, 0, 0, 1));
        CHECKS.refused("7: the size ahead of the place", ARGUMENT, k, () -> k.addRectangle(0, 99, 0, 1, 65));
    }

    private static void combine() {
        int[] areas = {11, 1, 5, 10};
        String[] drawings = {"..###/#####/###..", "...../..#../.....", "...../##.../###..", "..###/##.##/###.."};
        for (int operation = 0; operation < 4; operation++) {
            int by = operation;
            ScrimshawKernel k = new ScrimshawKernel();
            k.addRectangle(0, 0, 0, 3, 2);
            k.addRectangle(1, 2, 1, 3, 2);
            k.addRectangle(2, 9, 9, 1, 1);
            due("8: into a third, " + by, areas[by], () -> k.combine(2, 0, 1, by));
            due("8: fields, " + by, drawings[by], () -> Checks.drawn(k, 2, 0, 0, 5, 3));
            due("8: both stay, " + by, "6 6", () -> k.area(0) + " " + k.area(1));
            due("8: into the other, " + by, areas[by], () -> k.combine(1, 0, 1, by));
            due("8: fields in the other, " + by, drawings[by], () -> Checks.drawn(k, 1, 0, 0, 5, 3));
            k.undo();
            due("8: into the first, " + by, areas[by], () -> k.combine(0, 0, 1, by));
            due("8: fields in the first, " + by, drawings[by], () -> Checks.drawn(k, 0, 0, 0, 5, 3));
        }
        ScrimshawKernel k = with("##");
        due("8: with itself, 0", 2, () -> k.combine(0, 0, 0, 0));
        due("8: with itself, 1", 2, () -> k.combine(0, 0, 0, 1));
        due("8: with itself, 3", 0, () -> k.combine(0, 0, 0, 3));
        k.undo();
        due("8: with itself, 2", 0, () -> k.combine(0, 0, 0, 2));
        due("8: empty ones", 0, () -> k.combine(7, 5, 6, 0));
    }

    private static void combineRefuses() {
        ScrimshawKernel k = with("##");
        CHECKS.refused("8: no region", INDEX, k, () -> k.combine(8, 0, 0, 0));
        CHECKS.refused("8: no first one", INDEX, k, () -> k.combine(0, -1, 0, 0));
        CHECKS.refused("8: no other one", INDEX, k, () -> k.combine(0, 0, 8, 0));
        CHECKS.refused("8: no other one, first", INDEX, k, () -> k.combine(0, 0, 8, 4));
        CHECKS.refused("8: no operation 4", ARGUMENT, k, () -> k.combine(0, 1, 1, 4));
        CHECKS.refused("8: no operation -1", ARGUMENT, k, () -> k.combine(0, 1, 1, -1));
    }

    private static void move() {
        ScrimshawKernel k = with("#../##./.##");
        due("9: its area", 5, () -> k.move(0, 3, 2));
        due("9: to the right and up", "#../##./.##", () -> Checks.drawn(k, 0, 3, 2, 3, 3));
        due("9: left and down", 5, () -> k.move(0, -9, -12));
        due("9: its fields", "#../##./.##", () -> Checks.drawn(k, 0, -6, -10, 3, 3));
        due("9: its bounds", "-6 -10 -4 -8", () -> bounds(k, 0));
        due("9: right and down", 5, () -> k.move(0, 35, -22));
        due("9: to the limits", "29 -32 31 -30", () -> bounds(k, 0));
        due("9: left and up", 5, () -> k.move(0, -61, 61));
        due("9: to the other limits", "-32 29 -30 31", () -> bounds(k, 0));
        due("9: by 0", 5, () -> k.move(0, 0, 0));
        due("9: by 1 down", 5, () -> k.move(0, 0, -1));
        due("9: by 1 up", 5, () -> k.move(0, 0, 1));
        due("9: its fields there", "#../##./.##", () -> Checks.drawn(k, 0, -32, 29, 3, 3));
        due("9: the empty region by 64", 0, () -> k.move(1, 64, -64));
        due("9: the empty region by -64", 0, () -> k.move(1, -64, 64));
        k.addRectangle(2, -32, -32, 1, 1);
        due("9: one field by 63", "1 31 31 31 31", () -> k.move(2, 63, 63) + " " + bounds(k, 2));
        due("9: and back", "1 -32 -32 -32 -32", () -> k.move(2, -63, -63) + " " + bounds(k, 2));
    }

    private static void moveRefuses() {
        ScrimshawKernel k = with("#../##./.##");
        int[][] arguments = {{65, 0}, {-65, 0}, {0, 65}, {0, -65}, {MAX, 0}, {0, MIN}};
        for (int[] by : arguments) {
            CHECKS.refused("9: by " + by[0] + ", " + by[1], ARGUMENT, k, () -> k.move(0, by[0], by[1]));
            CHECKS.refused("9: empty, by " + by[0] + ", " + by[1], ARGUMENT, k, () -> k.move(1, by[0], by[1]));
        }
        int[][] beyond = {{30, 0}, {-33, 0}, {0, 30}, {0, -33}, {64, 0}, {0, -64}, {64, 64}};
        for (int[] by : beyond) {
            CHECKS.refused("9: beyond, " + by[0] + ", " + by[1], STATE, k, () -> k.move(0, by[0], by[1]));
        }
        CHECKS.refused("9: no region 8, first", INDEX, k, () -> k.move(8, 65, 0));
        CHECKS.refused("9: no region -1", INDEX, k, () -> k.move(-1, 0, 0));
        CHECKS.refused("9: the argument ahead of the limits", ARGUMENT, k, () -> k.move(0, 64, 65));
    }

    private static void turn() {
        int[][] windows = {{0, 0}, {-2, 0}, {-2, -2}, {0, -2}};
        String[] drawings = {"#./##", ".#/##", "##/.#", "##/#."};
        for (int quarters = 0; quarters < 4; quarters++) {
            int by = quarters;
            ScrimshawKernel k = with("#./##");
            due("10: area, " + by, 3, () -> k.turn(0, by));
            due("10: fields, " + by, drawings[by],
                () -> Checks.drawn(k, 0, windows[by][0], windows[by][1], 2, 2));
        }
        ScrimshawKernel k = new ScrimshawKernel();
        k.addRectangle(3, 31, 20, 1, 1);
        due("10: a field at the limit", "1 -21 31 -21 31", () -> k.turn(3, 1) + " " + bounds(k, 3));
        due("10: by two", "1 20 -32 20 -32", () -> k.turn(3, 2) + " " + bounds(k, 3));
        due("10: by three", "1 -32 -21 -32 -21", () -> k.turn(3, 3) + " " + bounds(k, 3));
        due("10: by none", "1 -32 -21 -32 -21", () -> k.turn(3, 0) + " " + bounds(k, 3));
        due("10: the empty region", 0, () -> k.turn(2, 1));
        CHECKS.refused("10: no quarters 4", ARGUMENT, k, () -> k.turn(3, 4));
        CHECKS.refused("10: no quarters -1", ARGUMENT, k, () -> k.turn(3, -1));
        CHECKS.refused("10: no region 8", INDEX, k, () -> k.turn(8, 1));
        CHECKS.refused("10: no region -1, first", INDEX, k, () -> k.turn(-1, 4));
    }

    private static void mirror() {
        ScrimshawKernel k = with("#../##./.##");
        due("11: its area", 5, () -> k.mirror(0));
        due("11: its fields", "..#/.##/##.", () -> Checks.drawn(k, 0, -3, 0, 3, 3));
        due("11: its bounds", "-3 0 -1 2", () -> bounds(k, 0));
        due("11: twice", "5 0 0 2 2", () -> k.mirror(0) + " " + bounds(k, 0));
        k.addRectangle(1, 31, -32, 1, 2);
        due("11: at the limit", "2 -32 -32 -32 -31", () -> k.mirror(1) + " " + bounds(k, 1));
        k.addRectangle(1, 30, 31, 2, 1);
        due("11: at two limits", 4, () -> k.mirror(1));
        due("11: the upper one", "##./...", () -> Checks.drawn(k, 1, -32, 30, 3, 2));
        due("11: the lower one", "..#/..#", () -> Checks.drawn(k, 1, 29, -32, 3, 2));
        due("11: the empty region", 0, () -> k.mirror(2));
        CHECKS.refused("11: no region 8", INDEX, k, () -> k.mirror(8));
        CHECKS.refused("11: no region -1", INDEX, k, () -> k.mirror(-1));
    }

    private static void grow() {
        ScrimshawKernel k = with("#");
        due("12: by 0, kind 0", 1, () -> k.grow(0, 0, 0));
        due("12: by 0, kind 1", 1, () -> k.grow(0, 0, 1));
        due("12: by 2, kind 1", 13, () -> k.grow(0, 2, 1));
        due("12: the sum of both", "..#../.###./#####/.###./..#..", () -> Checks.drawn(k, 0, -2, -2, 5, 5));
        k.undo();
        due("12: by 2, kind 0", 25, () -> k.grow(0, 2, 0));
        due("12: the greater one", "-2 -2 2 2", () -> bounds(k, 0));
        k.undo();
        due("12: by 8, kind 0", 289, () -> k.grow(0, 8, 0));
        k.undo();
        due("12: by 8, kind 1", 145, () -> k.grow(0, 8, 1));
        ScrimshawKernel two = with("#../..#");
        due("12: two fields, kind 1", 10, () -> two.grow(0, 1, 1));
        due("12: their fields", ".#.../####./.####/...#.", () -> Checks.drawn(two, 0, -1, -1, 5, 4));
        due("12: the empty region", 0, () -> two.grow(1, 8, 0));
        two.addRectangle(2, -24, -24, 48, 48);
        due("12: to the limits", 4096, () -> two.grow(2, 8, 0));
        due("12: by 0 at the limits", 4096, () -> two.grow(2, 0, 1));
    }

    private static void growRefuses() {
        int[][] places = {{-25, 0}, {24, 0}, {0, -25}, {0, 24}};
        for (int[] at : places) {
            ScrimshawKernel k = new ScrimshawKernel();
            k.addRectangle(5, at[0], at[1], 1, 1);
            CHECKS.refused("12: beyond the limits, kind 0", STATE, k, () -> k.grow(5, 8, 0));
            CHECKS.refused("12: beyond the limits, kind 1", STATE, k, () -> k.grow(5, 8, 1));
            CHECKS.refused("12: by 9 ahead of that", ARGUMENT, k, () -> k.grow(5, 9, 0));
            CHECKS.refused("12: kind 2 ahead of that", ARGUMENT, k, () -> k.grow(5, 8, 2));
            due("12: by 7 there", 225, () -> k.grow(5, 7, 0));
        }
        ScrimshawKernel k = with("#");
        CHECKS.refused("12: by -1", ARGUMENT, k, () -> k.grow(0, -1, 0));
        CHECKS.refused("12: kind -1", ARGUMENT, k, () -> k.grow(0, 1, -1));
        CHECKS.refused("12: by 9 of the empty region", ARGUMENT, k, () -> k.grow(1, 9, 0));
        CHECKS.refused("12: no region 8", INDEX, k, () -> k.grow(8, 1, 0));
        CHECKS.refused("12: no region -1, first", INDEX, k, () -> k.grow(-1, 9, 2));
    }

    private static void shrink() {
        ScrimshawKernel k = new ScrimshawKernel();
        k.addRectangle(0, -2, -2, 5, 5);
        due("13: by 0", 25, () -> k.shrink(0, 0, 0));
        due("13: by 1", "9 -1 -1 1 1", () -> k.shrink(0, 1, 0) + " " + bounds(k, 0));
        k.undo();
        due("13: by 2", "1 0 0 0 0", () -> k.shrink(0, 2, 1) + " " + bounds(k, 0));
        k.undo();
        due("13: by 3", 0, () -> k.shrink(0, 3, 0));
        ScrimshawKernel rhomb = with("..#../.###./#####/.###./..#..");
        due("13: the sum of both", 5, () -> rhomb.shrink(0, 1, 1));
        due("13: its fields", ".#./###/.#.", () -> Checks.drawn(rhomb, 0, 1, 1, 3, 3));
        rhomb.undo();
        due("13: the greater one", 1, () -> rhomb.shrink(0, 1, 0));
        ScrimshawKernel ring = with("#####/#####/##.##/#####/#####");
        due("13: from a hole too, kind 1", 4, () -> ring.shrink(0, 1, 1));
        due("13: what stays", "#.#/.../#.#", () -> Checks.drawn(ring, 0, 1, 1, 3, 3));
        ring.undo();
        due("13: from a hole too, kind 0", 0, () -> ring.shrink(0, 1, 0));
        k.addRectangle(1, -32, -32, 64, 64);
        due("13: what is beyond the limits is in no region", 3844, () -> k.shrink(1, 1, 0));
        k.undo();
        due("13: the same, kind 1", "3844 -31 -31 30 30", () -> k.shrink(1, 1, 1) + " " + bounds(k, 1));
        k.undo();
        due("13: by 8", "2304 -24 -24 23 23", () -> k.shrink(1, 8, 1) + " " + bounds(k, 1));
        due("13: the empty region", 0, () -> k.shrink(2, 8, 0));
        CHECKS.refused("13: by 9", ARGUMENT, k, () -> k.shrink(1, 9, 0));
        CHECKS.refused("13: by -1", ARGUMENT, k, () -> k.shrink(1, -1, 0));
        CHECKS.refused("13: kind 2", ARGUMENT, k, () -> k.shrink(1, 0, 2));
        CHECKS.refused("13: kind -1", ARGUMENT, k, () -> k.shrink(1, 0, -1));
        CHECKS.refused("13: no region 8", INDEX, k, () -> k.shrink(8, 1, 0));
        CHECKS.refused("13: no region -1, first", INDEX, k, () -> k.shrink(-1, 9, 2));
    }

    private static void fill() {
        String[] drawings = {
            "###/#.#/###",
            "#######/#.....#/#.###.#/#.#.#.#/#.###.#/#.....#/#######",
            "##./#.#/###",
            ".#./#.#/.#.",
            "####/##.#/#.##/####",
            "#####/#.#.#/#####",
            "#.#/###",
        };
        int[][] dues = {{1, 9}, {2, 49}, {0, 7}, {0, 4}, {1, 16}, {2, 15}, {0, 5}};
        for (int n = 0; n < drawings.length; n++) {
            String drawing = drawings[n];
            ScrimshawKernel k = with(drawing);
            due("14: how many in " + drawing, dues[n][0], () -> k.fill(0));
            due("14: area then of " + drawing, dues[n][1], () -> k.area(0));
            due("14: none are left in " + drawing, "0 0", () -> k.holes(0) + " " + k.fill(0));
        }
        ScrimshawKernel k = new ScrimshawKernel();
        k.addRectangle(0, -32, -32, 64, 64);
        k.addRectangle(1, -31, -31, 62, 62);
        k.addRectangle(2, -32, 5, 1, 1);
        k.combine(3, 0, 1, 2);
        due("14: as great as can be", "1 4096", () -> k.fill(3) + " " + k.area(3));
        k.combine(4, 0, 2, 2);
        due("14: none at the limit", "0 4095", () -> k.fill(4) + " " + k.area(4));
        due("14: the empty region", 0, () -> k.fill(5));
        CHECKS.refused("14: no region 8", INDEX, k, () -> k.fill(8));
        CHECKS.refused("14: no region -1", INDEX, k, () -> k.fill(-1));
    }

    private static void keepPiece() {
        String drawing = "..##/..##/##../##.#";
        int[][] fields = {{0, 1}, {3, 2}, {3, 0}, {2, 0}, {4, 0}, {-1, -1}, {MAX, 0}, {0, MIN}, {32, 0}, {0, -33}};
        int[] areas = {4, 4, 1, 0, 0, 0, 0, 0, 0, 0};
        String[] kept = {"..../..../##../##..", "..##/..##/..../....", "..../..../..../...#"};
        for (int n = 0; n < fields.length; n++) {
            int[] at = fields[n];
            ScrimshawKernel k = with(drawing);
            due("15: area, at " + at[0] + ", " + at[1], areas[n], () -> k.keepPiece(0, at[0], at[1]));
            due("15: fields, at " + at[0] + ", " + at[1], n < 3 ? kept[n] : "..../..../..../....",
                () -> Checks.drawn(k, 0, 0, 0, 4, 4));
        }
        ScrimshawKernel k = new ScrimshawKernel();
        k.addRectangle(0, 31, 31, 1, 1);
        k.addRectangle(0, -32, -32, 1, 1);
        due("15: at a limit", "1 31 31 31 31", () -> k.keepPiece(0, 31, 31) + " " + bounds(k, 0));
        due("15: of the empty region", 0, () -> k.keepPiece(1, 0, 0));
        CHECKS.refused("15: no region 8", INDEX, k, () -> k.keepPiece(8, 0, 0));
        CHECKS.refused("15: no region -1", INDEX, k, () -> k.keepPiece(-1, MAX, 0));
    }

    private static void clear() {
        ScrimshawKernel k = with("#.#/###");
        k.addRectangle(1, 0, 0, 2, 2);
        due("16: the area that it had", 5, () -> k.clear(0));
        due("16: it is empty", 0, () -> k.area(0));
        due("16: others stay", 4, () -> k.area(1));
        due("16: once more", 0, () -> k.clear(0));
        CHECKS.refused("16: no region 8", INDEX, k, () -> k.clear(8));
        CHECKS.refused("16: no region -1", INDEX, k, () -> k.clear(-1));
    }

    private static void undoTakesEachChangeBack() {
        ScrimshawKernel k = new ScrimshawKernel();
        k.addRectangle(5, 1, 1, 5, 5);
        k.addRectangle(4, 3, 2, 1, 2);
        k.combine(5, 5, 4, 2);
        Checks.Call[] changes = {
            () -> k.addRectangle(5, 10, 10, 2, 2), () -> k.combine(5, 5, 4, 0), () -> k.move(5, 3, 4),
            () -> k.turn(5, 1), () -> k.mirror(5), () -> k.grow(5, 1, 0), () -> k.shrink(5, 1, 0), () -> k.fill(5),
            () -> k.keepPiece(5, 0, 0), () -> k.clear(5), () -> k.close(5, 0)};
        long was = k.digest();
        String drawn = "#####/#####/##.##/##.##/#####";
        for (int n = 0; n < changes.length; n++) {
            changes[n].run();
            due("17: change " + n, false, () -> k.digest() == was);
            due("17: the region of change " + n, 5, () -> k.undo());
            due("17: as it was ahead of change " + n, was, () -> k.digest());
        }
        due("17: field by field", drawn, () -> Checks.drawn(k, 5, 1, 1, 5, 5));
        due("17: the changes ahead", "5 4 5 -1", () -> k.undo() + " " + k.undo() + " " + k.undo() + " " + k.undo());
    }

    private static void undoKeepsTwelve() {
        ScrimshawKernel k = new ScrimshawKernel();
        for (int n = 0; n < 30; n++) {
            k.addRectangle(n % 8, n, 0, 1, 1);
        }
        for (int n = 29; n >= 18; n--) {
            int at = n;
            due("17: has " + at, true, () -> k.has(at % 8, at, 0));
            due("17: takes back " + at, at % 8, () -> k.undo());
            due("17: has it no more", false, () -> k.has(at % 8, at, 0));
        }
        due("17: no thirteenth", -1, () -> k.undo());
        due("17: none ever more", -1, () -> k.undo());
        due("17: the one ahead stays", true, () -> k.has(1, 17, 0));
        k.addRectangle(2, 0, 20, 1, 1);
        k.addRectangle(3, 0, 20, 1, 1);
        due("17: undo is no change", "3 2 -1", () -> k.undo() + " " + k.undo() + " " + k.undo());
        for (int n = 0; n < 12; n++) {
            k.addRectangle(0, n, 9, 1, 1);
        }
        due("17: twelve to the last", "12", () -> {
            int count = 0;
            while (count < 20 && k.undo() == 0) {
                count++;
            }
            return count;
        });
        due("17: all of them back", false, () -> k.has(0, 0, 9));
    }

    private static void undoCountsWhatChangesNothing() {
        ScrimshawKernel k = new ScrimshawKernel();
        k.close(1, 0);
        k.combine(2, 0, 0, 0);
        k.move(3, 0, 0);
        k.turn(4, 0);
        k.mirror(5);
        k.grow(6, 0, 0);
        k.shrink(7, 0, 0);
        k.fill(0);
        k.keepPiece(1, 0, 0);
        k.clear(2);
        int[] regions = {2, 1, 0, 7, 6, 5, 4, 3, 2, 1, -1};
        for (int region : regions) {
            due("17: a change of nothing", region, () -> k.undo());
        }
    }

    private static void undoLeavesThePen() {
        ScrimshawKernel k = new ScrimshawKernel();
        k.moveTo(1, 1);
        k.lineX(2);
        k.lineY(2);
        k.close(0, 0);
        k.lineX(5);
        due("17: the region of close", 0, () -> k.undo());
        due("17: is as ahead of it", 0, () -> k.area(0));
        due("17: the pen stays", "6 1 2", () -> k.lineX(0) + " " + k.lineY(0) + " " + k.points());
        due("17: and nothing is left", -1, () -> k.undo());
    }
}
