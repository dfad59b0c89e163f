/** Promises 18 to 36: what one asks. */
public final class AskingTest {
    private static final Class<IllegalArgumentException> ARGUMENT = IllegalArgumentException.class;
    private static final Class<IndexOutOfBoundsException> INDEX = IndexOutOfBoundsException.class;
    private static final int MIN = Integer.MIN_VALUE;
    private static final int MAX = Integer.MAX_VALUE;

    /** A square with a hole of two fields that have just a point in common, and a field at the square's corner. */
    private static final String PINCHED = ".....#/#####./#####./##.##./#.###./#####.";
    private static final String RING = "###/#.#/###";

    private static final Checks CHECKS = new Checks();

    public static void main(String[] args) {
        counts();
        countsAtTheLimits();
        countsRefuse();
        has();
        bound();
        contoursOfOnePinched();
        contoursInOrder();
        contoursAtTheLimits();
        contoursRefuse();
        strips();
        stripsRefuse();
        hatchingOfARing();
        hatchingAtTheLimits();
        hatchingRefuses();
        apart();
        isSameForm();
        middleX();
        digest();
        askingChangesNothing();
        CHECKS.end("AskingTest");
    }

    private static void due(String what, Object want, Checks.Call call) {
        CHECKS.due(what, want, call);
    }

    private static ScrimshawKernel with(String drawing) {
        ScrimshawKernel k = new ScrimshawKernel();
        Checks.draw(k, 0, 0, 0, drawing);
        return k;
    }

    private static ScrimshawKernel whole() {
        ScrimshawKernel k = new ScrimshawKernel();
        k.addRectangle(0, -32, -32, 64, 64);
        return k;
    }

    private static void counts() {
        String[] drawings = {".", "#", "##", "#/#", ".#/#.", "#./.#", RING, PINCHED, "#.#/###", "#.#.#", "#####/#.#.#/#####",
            "#######/#.....#/#.###.#/#.#.#.#/#.###.#/#.....#/#######"};
        int[][] dues = {{0, 0, 0, 0}, {1, 4, 1, 0}, {2, 6, 1, 0}, {2, 6, 1, 0}, {2, 8, 2, 0}, {2, 8, 2, 0}, {8, 16, 1, 1},
            {24, 32, 2, 1}, {5, 12, 1, 0}, {3, 12, 3, 0}, {13, 24, 1, 2}, {32, 64, 2, 2}};
        for (int n = 0; n < drawings.length; n++) {
            ScrimshawKernel k = with(drawings[n]);
            String of = " of " + drawings[n];
            due("18: area" + of, dues[n][0], () -> k.area(0));
            due("19: edges" + of, dues[n][1], () -> k.edges(0));
            due("20: pieces" + of, dues[n][2], () -> k.pieces(0));
            due("21: holes" + of, dues[n][3], () -> k.holes(0));
        }
    }

    private static void countsAtTheLimits() {
        ScrimshawKernel k = whole();
        due("18: of all fields", 4096, () -> k.area(0));
        due("19: of all fields", 256, () -> k.edges(0));
        due("20: of all fields", 1, () -> k.pieces(0));
        due("21: of all fields", 0, () -> k.holes(0));
        k.addRectangle(1, -32, -32, 1, 1);
        k.addRectangle(1, 31, 31, 1, 1);
        k.addRectangle(1, -32, 31, 1, 1);
        k.addRectangle(1, 31, -32, 1, 1);
        due("20: the four at the limits", "4 16 4 0",
            () -> k.area(1) + " " + k.edges(1) + " " + k.pieces(1) + " " + k.holes(1));
        k.combine(2, 0, 1, 2);
        due("21: all but these", "4092 256 1 0",
            () -> k.area(2) + " " + k.edges(2) + " " + k.pieces(2) + " " + k.holes(2));
        int[][] notches = {{0, -32}, {0, 31}, {-32, 0}, {31, 0}};
        for (int[] at : notches) {
            k.clear(4);
            k.addRectangle(4, at[0], at[1], 1, 1);
            k.combine(5, 0, 4, 2);
            due("21: a notch at " + at[0] + ", " + at[1], "0 258", () -> k.holes(5) + " " + k.edges(5));
        }
        k.addRectangle(3, -31, -31, 62, 62);
        k.combine(3, 0, 3, 2);
        due("21: a frame", "252 504 1 1",
            () -> k.area(3) + " " + k.edges(3) + " " + k.pieces(3) + " " + k.holes(3));
    }

    private static void countsRefuse() {
        ScrimshawKernel k = with("##");
        int[] none = {8, -1, MAX, MIN};
        for (int region : none) {
            CHECKS.refused("18: region " + region, INDEX, k, () -> k.area(region));
            CHECKS.refused("19: region " + region, INDEX, k, () -> k.edges(region));
            CHECKS.refused("20: region " + region, INDEX, k, () -> k.pieces(region));
            CHECKS.refused("21: region " + region, INDEX, k, () -> k.holes(region));
        }
        due("18: region 7", 0, () -> k.area(7));
    }

    private static void has() {
        ScrimshawKernel k = whole();
        int[][] there = {{0, 0}, {-32, -32}, {31, 31}, {-32, 31}, {31, -32}};
        for (int[] at : there) {
            due("22: " + at[0] + ", " + at[1], true, () -> k.has(0, at[0], at[1]));
            due("22: another region", false, () -> k.has(1, at[0], at[1]));
        }
        int[][] beyond = {{-33, 0}, {32, 0}, {0, -33}, {0, 32}, {MIN, 0}, {0, MAX}, {MAX, MIN}, {64, 0}, {0, -64}};
        for (int[] at : beyond) {
            due("22: beyond, " + at[0] + ", " + at[1], false, () -> k.has(0, at[0], at[1]));
        }
        CHECKS.refused("22: no region 8", INDEX, k, () -> k.has(8, 0, 0));
        CHECKS.refused("22: no region -1", INDEX, k, () -> k.has(-1, MAX, MAX));
    }

    private static void bound() {
        ScrimshawKernel k = new ScrimshawKernel();
        k.addRectangle(0, -7, 3, 2, 2);
        k.addRectangle(0, -1, 9, 5, 1);
        k.addRectangle(1, -32, -32, 64, 64);
        int[] dues = {-7, 3, 3, 9};
        int[] limits = {-32, -32, 31, 31};
        for (int n = 0; n < 4; n++) {
            int side = n;
            due("23: side " + side, dues[side], () -> k.bound(0, side));
            due("23: at the limits, " + side, limits[side], () -> k.bound(1, side));
            due("23: of the empty region, " + side, 0, () -> k.bound(2, side));
        }
        CHECKS.refused("23: no side 4", ARGUMENT, k, () -> k.bound(0, 4));
        CHECKS.refused("23: no side -1, of the empty region", ARGUMENT, k, () -> k.bound(2, -1));
        CHECKS.refused("23: no region 8, first", INDEX, k, () -> k.bound(8, 4));
        CHECKS.refused("23: no region -1", INDEX, k, () -> k.bound(-1, 0));
    }

    /** All corners of a contour, as x,y. */
    private static String outline(ScrimshawKernel k, int contour) {
        StringBuilder outline = new StringBuilder();
        for (int n = 0; n < k.corners(0, contour); n++) {
            outline.append(n > 0 ? " " : "").append(k.cornerX(0, contour, n)).append(',')
                .append(k.cornerY(0, contour, n));
        }
        return outline.toString();
    }

    private static void contoursDue(String drawing, String[] outlines, int[] areas) {
        ScrimshawKernel k = with(drawing);
        due("24: contours of " + drawing, outlines.length, () -> k.contours(0));
        for (int n = 0; n < outlines.length; n++) {
            int contour = n;
            String of = " of " + contour + " of " + drawing;
            due("25: corners" + of, outlines[contour].split(" ").length, () -> k.corners(0, contour));
            due("26, 27: places" + of, outlines[contour], () -> outline(k, contour));
            due("28: areaOf" + of, areas[contour], () -> k.areaOf(0, contour));
        }
        due("25: and no more", "throws.IndexOutOfBoundsException", () -> k.corners(0, outlines.length));
    }

    private static void contoursOfOnePinched() {
        contoursDue(PINCHED, new String[] {
            "0,0 5,0 5,5 0,5",
            "1,1 1,2 2,2 2,3 3,3 3,2 2,2 2,1",
            "5,5 6,5 6,6 5,6"}, new int[] {25, -2, 1});
        contoursDue("###./#.##/####", new String[] {
            "0,0 4,0 4,2 3,2 3,3 0,3", "1,1 1,2 2,2 2,1"}, new int[] {11, -1});
        contoursDue("###/##./#.#/###", new String[] {
            "0,0 3,0 3,2 2,2 2,1 1,1 1,2 2,2 2,3 3,3 3,4 0,4"}, new int[] {10});
        contoursDue("#./.#", new String[] {"1,0 2,0 2,1 1,1", "0,1 1,1 1,2 0,2"}, new int[] {1, 1});
        contoursDue(".#/#.", new String[] {"0,0 1,0 1,1 0,1", "1,1 2,1 2,2 1,2"}, new int[] {1, 1});
    }

    private static void contoursInOrder() {
        contoursDue("..#/#../..#", new String[] {
            "2,0 3,0 3,1 2,1", "0,1 1,1 1,2 0,2", "2,2 3,2 3,3 2,3"}, new int[] {1, 1, 1});
        contoursDue("#.#.#", new String[] {
            "0,0 1,0 1,1 0,1", "2,0 3,0 3,1 2,1", "4,0 5,0 5,1 4,1"}, new int[] {1, 1, 1});
        contoursDue("###/#.#", new String[] {"0,0 1,0 1,1 2,1 2,0 3,0 3,2 0,2"}, new int[] {5});
        contoursDue(".#./###", new String[] {"0,0 3,0 3,1 2,1 2,2 1,2 1,1 0,1"}, new int[] {4});
        contoursDue("#####.#/#.#.#.#/#####..", new String[] {
            "0,0 5,0 5,3 0,3", "1,1 1,2 2,2 2,1", "3,1 3,2 4,2 4,1", "6,1 7,1 7,3 6,3"}, new int[] {15, -1, -1, 2});
        contoursDue("#.#####/..#...#/#.#.#.#/..#...#/..#####", new String[] {
            "2,0 7,0 7,5 2,5", "3,1 3,4 6,4 6,1", "0,2 1,2 1,3 0,3", "4,2 5,2 5,3 4,3", "0,4 1,4 1,5 0,5"},
            new int[] {25, -9, 1, 1, 1});
        contoursDue(".", new String[] {}, new int[] {});
    }

    private static void contoursAtTheLimits() {
        ScrimshawKernel k = whole();
        due("24: of all fields", 1, () -> k.contours(0));
        due("26: of all fields", "-32,-32 32,-32 32,32 -32,32", () -> outline(k, 0));
        due("28: of all fields", 4096, () -> k.areaOf(0, 0));
        k.addRectangle(1, -31, -31, 62, 62);
        k.combine(0, 0, 1, 2);
        due("24: of a frame", 2, () -> k.contours(0));
        due("27: of its hole", "-31,-31 -31,31 31,31 31,-31", () -> outline(k, 1));
        due("28: of its hole", -3844, () -> k.areaOf(0, 1));
        k.clear(0);
        k.addRectangle(0, 31, -32, 1, 1);
        k.addRectangle(0, -32, 31, 1, 1);
        due("27: at the right", "31,-32 32,-32 32,-31 31,-31", () -> outline(k, 0));
        due("27: at the left", "-32,31 -31,31 -31,32 -32,32", () -> outline(k, 1));
    }

    private static void contoursRefuse() {
        ScrimshawKernel k = with(RING);
        int[] none = {8, -1, MAX, MIN};
        for (int region : none) {
            CHECKS.refused("24: region " + region, INDEX, k, () -> k.contours(region));
            CHECKS.refused("25: region " + region, INDEX, k, () -> k.corners(region, 0));
            CHECKS.refused("26: region " + region, INDEX, k, () -> k.cornerX(region, 0, 0));
            CHECKS.refused("27: region " + region, INDEX, k, () -> k.cornerY(region, 0, 0));
            CHECKS.refused("28: region " + region, INDEX, k, () -> k.areaOf(region, 0));
        }
        int[] noContour = {2, -1, MAX, MIN};
        for (int contour : noContour) {
            CHECKS.refused("25: contour " + contour, INDEX, k, () -> k.corners(0, contour));
            CHECKS.refused("26: contour " + contour, INDEX, k, () -> k.cornerX(0, contour, 0));
            CHECKS.refused("27: contour " + contour, INDEX, k, () -> k.cornerY(0, contour, 0));
            CHECKS.refused("28: contour " + contour, INDEX, k, () -> k.areaOf(0, contour));
        }
        int[] noCorner = {4, -1, MAX, MIN};
        for (int corner : noCorner) {
            CHECKS.refused("26: corner " + corner, INDEX, k, () -> k.cornerX(0, 1, corner));
            CHECKS.refused("27: corner " + corner, INDEX, k, () -> k.cornerY(0, 1, corner));
        }
        CHECKS.refused("25: the empty region has none", INDEX, k, () -> k.corners(1, 0));
        CHECKS.refused("28: the empty region has none", INDEX, k, () -> k.areaOf(1, 0));
    }

    private static void stripsDue(String drawing, int[]... strips) {
        ScrimshawKernel k = with(drawing);
        due("29: strips of " + drawing, strips.length, () -> k.strips(0));
        for (int n = 0; n < strips.length; n++) {
            for (int w = 0; w < 4; w++) {
                int strip = n;
                int what = w;
                due("30: " + what + " of " + strip + " of " + drawing, strips[strip][what], () -> k.strip(0, strip, what));
            }
        }
        due("30: and no more", "throws.IndexOutOfBoundsException", () -> k.strip(0, strips.length, 0));
    }

    private static void strips() {
        stripsDue("##.##/##.#./#####", new int[] {0, 0, 5, 1}, new int[] {0, 1, 2, 2}, new int[] {3, 1, 1, 1},
            new int[] {3, 2, 2, 1});
        stripsDue("#/./#", new int[] {0, 0, 1, 1}, new int[] {0, 2, 1, 1});
        stripsDue("##/##/##", new int[] {0, 0, 2, 3});
        stripsDue("###/##./#..", new int[] {0, 0, 1, 1}, new int[] {0, 1, 2, 1}, new int[] {0, 2, 3, 1});
        stripsDue(".##/###/.##", new int[] {1, 0, 2, 1}, new int[] {0, 1, 3, 1}, new int[] {1, 2, 2, 1});
        stripsDue(RING, new int[] {0, 0, 3, 1}, new int[] {0, 1, 1, 1}, new int[] {2, 1, 1, 1}, new int[] {0, 2, 3, 1});
        stripsDue("#.#/#.#", new int[] {0, 0, 1, 2}, new int[] {2, 0, 1, 2});
        stripsDue("#../#.#/..#", new int[] {2, 0, 1, 2}, new int[] {0, 1, 1, 2});
        stripsDue(".");
        ScrimshawKernel k = whole();
        due("29: of all fields", 1, () -> k.strips(0));
        due("30: of all fields", "-32 -32 64 64",
            () -> k.strip(0, 0, 0) + " " + k.strip(0, 0, 1) + " " + k.strip(0, 0, 2) + " " + k.strip(0, 0, 3));
        k.addRectangle(1, 31, -32, 1, 64);
        k.addRectangle(1, -32, 31, 1, 1);
        due("29: at the limits", 2, () -> k.strips(1));
        due("30: at the right", "31 -32 1 64",
            () -> k.strip(1, 0, 0) + " " + k.strip(1, 0, 1) + " " + k.strip(1, 0, 2) + " " + k.strip(1, 0, 3));
        due("30: at the left", "-32 31 1 1",
            () -> k.strip(1, 1, 0) + " " + k.strip(1, 1, 1) + " " + k.strip(1, 1, 2) + " " + k.strip(1, 1, 3));
    }

    private static void stripsRefuse() {
        ScrimshawKernel k = with(RING);
        int[] none = {8, -1, MAX, MIN};
        for (int region : none) {
            CHECKS.refused("29: region " + region, INDEX, k, () -> k.strips(region));
            CHECKS.refused("30: region " + region, INDEX, k, () -> k.strip(region, 0, 0));
        }
        int[] noStrip = {4, -1, MAX, MIN};
        for (int strip : noStrip) {
            CHECKS.refused("30: strip " + strip, INDEX, k, () -> k.strip(0, strip, 0));
            CHECKS.refused("30: strip " + strip + ", first", INDEX, k, () -> k.strip(0, strip, 4));
        }
        CHECKS.refused("30: what 4", ARGUMENT, k, () -> k.strip(0, 3, 4));
        CHECKS.refused("30: what -1", ARGUMENT, k, () -> k.strip(0, 0, -1));
        CHECKS.refused("30: the empty region has none", INDEX, k, () -> k.strip(1, 0, 0));
    }

    private static void hatchingOfARing() {
        ScrimshawKernel k = with(RING);
        int[][] dues = {
            {0, 1, 0, 4, 8}, {1, 1, 0, 4, 8}, {2, 1, 0, 6, 8}, {3, 1, 0, 6, 8},
            {0, 2, 0, 2, 6}, {0, 2, 1, 2, 2}, {0, 2, -1, 2, 2}, {0, 2, 99, 2, 2}, {0, 2, -100, 2, 6},
            {1, 2, 1, 2, 2}, {1, 3, 2, 1, 3}, {1, 3, -97, 1, 3}, {0, 20, -100, 1, 3}, {0, 20, 100, 1, 3},
            {0, 20, 3, 0, 0}, {2, 3, -60, 2, 3}, {2, 2, 0, 4, 4}, {2, 2, 1, 2, 4}, {3, 2, 1, 2, 4}, {3, 2, 100, 4, 4},
            {3, 3, 1, 2, 3}, {3, 20, -2, 1, 1}, {3, 20, 2, 1, 1}, {2, 20, 4, 1, 1}, {2, 20, -4, 0, 0},
        };
        for (int[] n : dues) {
            String of = " kind " + n[0] + " every " + n[1] + " first " + n[2];
            due("31: rows," + of, n[3], () -> k.hatch(0, n[0], n[1], n[2]));
            due("32: fields," + of, n[4], () -> k.hatched(0, n[0], n[1], n[2]));
        }
        ScrimshawKernel corner = with("#../#../###");
        due("31: upwards and to the right", "5 4", () -> corner.hatch(0, 3, 1, 0) + " " + corner.hatch(0, 2, 1, 0));
        due("31: along x, and along y", "3 3", () -> corner.hatch(0, 0, 1, 0) + " " + corner.hatch(0, 1, 1, 0));
        ScrimshawKernel comb = with("#.#.#/#####");
        due("31: along x, of a comb", "4 5", () -> comb.hatch(0, 0, 1, 0) + " " + comb.hatch(0, 1, 1, 0));
        due("31: the empty region", "0 0", () -> k.hatch(1, 0, 1, 0) + " " + k.hatched(1, 3, 1, 0));
    }

    private static void hatchingAtTheLimits() {
        ScrimshawKernel k = whole();
        int[] rows = {64, 64, 127, 127};
        int[] seventh = {10, 10, 18, 19};
        for (int n = 0; n < 4; n++) {
            int kind = n;
            due("31: all fields, kind " + kind, rows[kind], () -> k.hatch(0, kind, 1, 100));
            due("32: all fields, kind " + kind, 4096, () -> k.hatched(0, kind, 1, -100));
            due("31: every seventh, kind " + kind, seventh[kind], () -> k.hatch(0, kind, 7, kind < 2 ? -32 : 0));
        }
        k.addRectangle(1, 31, -32, 1, 1);
        due("32: the number 63", "1 0", () -> k.hatched(1, 3, 20, 63) + " " + k.hatched(1, 3, 20, 62));
        due("32: the number -1", "1 0", () -> k.hatched(1, 2, 20, 99) + " " + k.hatched(1, 2, 20, 100));
    }

    private static void hatchingRefuses() {
        ScrimshawKernel k = with(RING);
        int[][] wrong = {{4, 1, 0}, {-1, 1, 0}, {0, 0, 0}, {0, 21, 0}, {0, -1, 0}, {0, 1, 101}, {0, 1, -101}, {MAX, 1, 0},
            {3, MIN, 0}, {2, 20, MIN}, {1, 20, MAX}};
        for (int[] n : wrong) {
            String of = n[0] + ", " + n[1] + ", " + n[2];
            CHECKS.refused("31: " + of, ARGUMENT, k, () -> k.hatch(0, n[0], n[1], n[2]));
            CHECKS.refused("32: " + of, ARGUMENT, k, () -> k.hatched(0, n[0], n[1], n[2]));
        }
        CHECKS.refused("31: no region 8, first", INDEX, k, () -> k.hatch(8, 4, 0, 101));
        CHECKS.refused("31: no region -1", INDEX, k, () -> k.hatch(-1, 0, 1, 0));
        CHECKS.refused("32: no region 8, first", INDEX, k, () -> k.hatched(8, 4, 0, 101));
        CHECKS.refused("32: no region -1", INDEX, k, () -> k.hatched(-1, 0, 1, 0));
    }

    private static void apartDue(int want, int x, int y) {
        ScrimshawKernel k = with("#..../##...");
        k.addRectangle(1, x, y, 1, 1);
        due("33: from " + x + ", " + y, want, () -> k.apart(0, 1));
        due("33: from " + x + ", " + y + ", the other way", want, () -> k.apart(1, 0));
    }

    private static void apart() {
        apartDue(0, 0, 1);
        apartDue(1, 1, 1);
        apartDue(1, 2, 1);
        apartDue(2, 2, 2);
        apartDue(4, 5, 3);
        apartDue(5, -2, 6);
        apartDue(7, -7, -2);
        apartDue(31, -31, 31);
        apartDue(32, -32, -32);
        ScrimshawKernel k = new ScrimshawKernel();
        k.addRectangle(0, -32, 0, 1, 1);
        k.addRectangle(1, 31, 5, 1, 1);
        k.addRectangle(2, 3, -32, 4, 1);
        k.addRectangle(3, 0, 31, 1, 1);
        due("33: the greatest along x", 63, () -> k.apart(0, 1));
        due("33: the greatest along y", 63, () -> k.apart(3, 2));
        due("33: the same", 0, () -> k.apart(2, 2));
        due("33: one is empty", "-1 -1 -1", () -> k.apart(0, 4) + " " + k.apart(4, 0) + " " + k.apart(4, 4));
        CHECKS.refused("33: no region 8", INDEX, k, () -> k.apart(8, 0));
        CHECKS.refused("33: no other region -1", INDEX, k, () -> k.apart(4, -1));
    }

    private static void isSameForm() {
        String drawing = "#../##./.##";
        String[] others = {drawing, "..#/.##/##.", ".##/##./#..", "##./.##/..#", "#../##./##.", "#../##./###", "##/##", "."};
        for (int n = 0; n < others.length; n++) {
            ScrimshawKernel k = with(drawing);
            Checks.draw(k, 1, -9, 20, others[n]);
            boolean want = n == 0;
            due("34: " + others[n], want, () -> k.isSameForm(0, 1));
            due("34: " + others[n] + ", the other way", want, () -> k.isSameForm(1, 0));
        }
        ScrimshawKernel k = with(drawing);
        due("34: the same", true, () -> k.isSameForm(0, 0));
        due("34: both empty", true, () -> k.isSameForm(1, 2));
        k.addRectangle(3, -32, -32, 1, 1);
        k.addRectangle(4, 31, 31, 1, 1);
        due("34: as far as can be", "true true", () -> k.isSameForm(3, 4) + " " + k.isSameForm(4, 3));
        k.addRectangle(5, -32, 0, 64, 1);
        k.addRectangle(6, 0, -32, 1, 64);
        Checks.draw(k, 1, 20, 30, "##./###");
        Checks.draw(k, 2, -20, 30, ".##/###");
        due("34: at the upper limit", "false true", () -> {
            boolean ahead = k.isSameForm(1, 2);
            k.mirror(2);
            return ahead + " " + k.isSameForm(1, 2);
        });
        due("34: a row and a column", "false false", () -> k.isSameForm(5, 6) + " " + k.isSameForm(6, 5));
        CHECKS.refused("34: no region 8", INDEX, k, () -> k.isSameForm(8, 0));
        CHECKS.refused("34: no other region -1", INDEX, k, () -> k.isSameForm(0, -1));
    }

    private static void middleX() {
        ScrimshawKernel k = with("#../##./.##");
        due("35: not cut", 4.0 / 5, () -> k.middleX(0));
        k.mirror(0);
        due("35: less than 0", -9.0 / 5, () -> k.middleX(0));
        due("35: of the empty region", 0.0, () -> k.middleX(1));
        k.addRectangle(2, -32, -32, 64, 64);
        due("35: of all fields", -0.5, () -> k.middleX(2));
        k.addRectangle(3, 31, 31, 1, 1);
        due("35: the greatest", 31.0, () -> k.middleX(3));
        k.addRectangle(4, -32, 31, 1, 1);
        due("35: the least", -32.0, () -> k.middleX(4));
        k.addRectangle(5, -1, 0, 3, 1);
        due("35: none less than 0 at 0", 0.0, () -> k.middleX(5));
        k.addRectangle(6, 0, 0, 1, 1);
        k.addRectangle(6, 1, 0, 1, 2);
        due("35: thirds", 2.0 / 3, () -> k.middleX(6));
        CHECKS.refused("35: no region 8", INDEX, k, () -> k.middleX(8));
        CHECKS.refused("35: no region -1", INDEX, k, () -> k.middleX(-1));
    }

    private static long digestOf(int... values) {
        long d = 2543;
        for (int value : values) {
            d = d * 31 + value;
        }
        return d;
    }

    private static int[] withEmptyRegions(int[] ahead, int regions, int changes) {
        int[] values = java.util.Arrays.copyOf(ahead, ahead.length + 10 * regions + 1);
        values[values.length - 1] = changes;
        return values;
    }

    private static void digest() {
        ScrimshawKernel k = new ScrimshawKernel();
        due("36: a new object", digestOf(withEmptyRegions(new int[] {1}, 8, 0)), () -> k.digest());
        k.lineX(4);
        due("36: the points", digestOf(withEmptyRegions(new int[] {2}, 8, 0)), () -> k.digest());
        k.addRectangle(0, 2, 3, 2, 1);
        due("36: a region", digestOf(withEmptyRegions(
            new int[] {2, 2, 6, 1, 0, 2, 3, 3, 3, 1, 4, 2, 2, 3, 1, 2, 3, 2, 1}, 7, 1)), () -> k.digest());
        k.undo();
        Checks.draw(k, 1, -1, -5, RING);
        due("36: contours, then strips", digestOf(withEmptyRegions(new int[] {
            2, 0, 0, 0, 0, 0, 0, 0, 0, 0, 0, 8, 16, 1, 1, -1, -5, 1, -3, 2, 4, 9, -1, -5, 4, -1, 0, -4,
            4, -1, -5, 3, 1, -1, -4, 1, 1, 1, -4, 1, 1, -1, -3, 3, 1}, 6, 8)), () -> k.digest());
        for (int n = 0; n < 20; n++) {
            k.clear(1);
        }
        due("36: no more than 12 changes", digestOf(withEmptyRegions(new int[] {2}, 8, 12)), () -> k.digest());
        k.undo();
        due("36: one less", digestOf(withEmptyRegions(new int[] {2}, 8, 11)), () -> k.digest());
    }

    private static void askingChangesNothing() {
        ScrimshawKernel k = with(PINCHED);
        k.addRectangle(1, 3, 3, 9, 9);
        k.moveTo(2, 2);
        k.lineY(2);
        Checks.Call[] asks = {() -> k.area(0), () -> k.edges(0), () -> k.pieces(0), () -> k.holes(0), () -> k.has(0, 0, 0),
            () -> k.bound(0, 0), () -> k.contours(0), () -> k.corners(0, 1), () -> k.cornerX(0, 1, 1),
            () -> k.cornerY(0, 1, 1), () -> k.areaOf(0, 1), () -> k.strips(0), () -> k.strip(0, 1, 1),
            () -> k.hatch(0, 2, 1, 0), () -> k.hatched(0, 2, 1, 0), () -> k.apart(0, 1), () -> k.isSameForm(0, 1),
            () -> k.middleX(0), () -> k.points()};
        long was = k.digest();
        for (int n = 0; n < asks.length; n++) {
            asks[n].run();
            due("18 to 36: ask " + n + " changes nothing", was, () -> k.digest());
        }
        due("18 to 36: fields", ".....#/#####./#####./##.##./#.###./#####.", () -> Checks.drawn(k, 0, 0, 0, 6, 6));
    }
}
