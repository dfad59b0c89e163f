import java.io.IOException;

/** What each promise says of its parameters: each one is what it says, and no other is taken for it. */
public final class ParametersTest {
    private interface Due {
        Object of(int region);
    }

    private interface PairDue {
        Object of(int one, int other);
    }

    private interface PairAsk {
        Object on(ScrimshawKernel kernel, int one, int other);
    }

    public static void main(String[] args) throws IOException {
        Sentences.run(ParametersTest.class);
    }

    /** Each region has one ring more than the one ahead: the left one's left lower field is at (-3 * region, region). */
    private static ScrimshawKernel rings() {
        ScrimshawKernel k = new ScrimshawKernel();
        for (int region = 0; region < 8; region++) {
            for (int n = 0; n <= region; n++) {
                int x = 4 * n - 3 * region;
                k.addRectangle(region, x, region, 3, 1);
                k.addRectangle(region, x, region + 2, 3, 1);
                k.addRectangle(region, x, region, 1, 3);
                k.addRectangle(region, x + 2, region, 1, 3);
            }
        }
        return k;
    }

    /** Each region is stairs of one step more than the one ahead. */
    private static ScrimshawKernel stairs() {
        ScrimshawKernel k = new ScrimshawKernel();
        for (int region = 0; region < 8; region++) {
            for (int y = 0; y <= region; y++) {
                k.addRectangle(region, 0, y, region + 1 - y, 1);
            }
        }
        return k;
    }

    /** Each region is one field: at (3 * region, -region). */
    private static ScrimshawKernel fields() {
        ScrimshawKernel k = new ScrimshawKernel();
        for (int region = 0; region < 8; region++) {
            k.addRectangle(region, 3 * region, -region, 1, 1);
        }
        return k;
    }

    /** Region 2 is two rectangles: 2 by 3 fields from (-5, -4) on, and further up 4 by 2 from (3, 1) on. */
    private static ScrimshawKernel two() {
        ScrimshawKernel k = new ScrimshawKernel();
        k.addRectangle(2, -5, -4, 2, 3);
        k.addRectangle(2, 3, 1, 4, 2);
        return k;
    }

    private static void asksThatRegion(Checks c, ScrimshawKernel k, Cases.RegionAct ask, Due due) {
        for (int n = 0; n < 8; n++) {
            int region = n;
            c.due("of region " + region, due.of(region), () -> ask.on(k, region));
        }
    }

    private static void asksThatPair(Checks c, ScrimshawKernel k, PairAsk ask, PairDue due) {
        for (int n = 0; n < 64; n++) {
            int one = n / 8;
            int other = n % 8;
            c.due("of " + one + " and " + other, due.of(one, other), () -> ask.on(k, one, other));
        }
    }

    /** A region's fields, by its strips. */
    private static String told(ScrimshawKernel k, int region) {
        StringBuilder told = new StringBuilder();
        for (int strip = 0; strip < k.strips(region); strip++) {
            told.append(strip > 0 ? ", " : "").append(Cases.strip(k, region, strip));
        }
        return told.toString();
    }

    /** The call changes that region, to one of the area that is due, and none else. */
    private static void changesThatRegion(Checks c, Cases.Made made, Cases.RegionAct change, Due area) {
        for (int n = 0; n < 8; n++) {
            int region = n;
            // A new one each time, as an object is used for at most 512 calls.
            ScrimshawKernel was = made.make();
            ScrimshawKernel k = made.make();
            change.on(k, region);
            c.due("area of region " + region, area.of(region), () -> k.area(region));
            c.due("region " + region + " is another one", false, () -> told(was, region).equals(told(k, region)));
            for (int m = 0; m < 8; m++) {
                int other = m;
                if (other != region) {
                    c.due("region " + other + " behind a change of " + region, area(was, other), () -> area(k, other));
                }
            }
            c.due("the change is one of that region", region, () -> k.undo());
        }
    }

    /** Enough to tell the regions here apart, for those that do not change. */
    private static String area(ScrimshawKernel k, int region) {
        return k.area(region) + " " + Cases.bounds(k, region) + " " + k.strips(region) + " " + k.contours(region);
    }

    @Sentence(of = "Promise 2", says = "- `x`: the x of its first point\n- `y`: its y")
    static void promise2_xAndYOfItsFirstPoint(Checks c) {
        ScrimshawKernel k = new ScrimshawKernel();
        k.moveTo(3, -5);
        c.due("the pen", "3 -5 1", () -> Cases.pen(k));
        k.lineX(2);
        k.lineY(4);
        k.close(0, 0);
        c.due("the path begins there", "3 -5 2 4", () -> told(k, 0));
        c.due("and so does the next one", "3 -5 1", () -> Cases.pen(k));
    }

    @Sentence(of = "Promise 5", says = "- `region`: the region\n- `rule`: the rule, 0 or 1")
    static void promise5_theRegionAndTheRule(Checks c) {
        for (int rule = 0; rule < 2; rule++) {
            int by = rule;
            changesThatRegion(c, () -> {
                ScrimshawKernel k = rings();
                // A square of four by four, and one of two by two upon it: inside it is inside once more.
                k.lineX(4);
                k.lineY(4);
                k.lineX(-4);
                k.lineY(-4);
                k.lineX(2);
                k.lineY(2);
                return k;
            }, (k, region) -> k.close(region, by), region -> by == 0 ? 12 : 16);
        }
    }

    @Sentence(of = "Promise 7", says = "- `region`: the region\n- `x`: the x of the left lower point of the rectangle\n"
        + "- `y`: its y\n- `width`: how wide it is\n- `height`: how high it is")
    static void promise7_theRegionTheLeftLowerPointAndTheSize(Checks c) {
        changesThatRegion(c, ParametersTest::rings, (k, region) -> k.addRectangle(region, -9, -21, 4, 7),
            region -> 8 * (region + 1) + 28);
        ScrimshawKernel k = new ScrimshawKernel();
        k.addRectangle(5, -9, -21, 4, 7);
        c.due("the rectangle", "-9 -21 4 7", () -> told(k, 5));
    }

    @Sentence(of = "Promise 8", says = "- `region`: the region\n- `one`: the first one\n- `other`: the other one\n"
        + "- `operation`: the operation")
    static void promise8_theRegionTheFirstTheOtherAndTheOperation(Checks c) {
        // Of two rows that have two fields in common, the one has three more, the other has one more.
        int[] areas = {6, 2, 3, 4};
        for (int operation = 0; operation < 4; operation++) {
            int by = operation;
            for (int n = 0; n < 64; n++) {
                int one = n / 8;
                int other = n % 8;
                for (int region = 0; region < 8 && one != other; region++) {
                    int to = region;
                    ScrimshawKernel k = new ScrimshawKernel();
                    k.addRectangle(one, 0, 0, 5, 1);
                    k.addRectangle(other, 3, 0, 3, 1);
                    k.combine(to, one, other, by);
                    c.due("region " + to + " of " + one + " and " + other + " by " + by, areas[by], () -> k.area(to));
                    c.due("the first one, behind " + to + " of " + one + " and " + other, to == one ? areas[by] : 5,
                        () -> k.area(one));
                    c.due("the other one, behind " + to + " of " + one + " and " + other, to == other ? areas[by] : 3,
                        () -> k.area(other));
                    c.due("the change is one of that region", to, () -> k.undo());
                }
            }
        }
    }

    @Sentence(of = "Promise 9", says = "- `region`: the region\n- `byX`: by how much along x\n- `byY`: by how much along y")
    static void promise9_theRegionAndByHowMuch(Checks c) {
        changesThatRegion(c, ParametersTest::rings, (k, region) -> k.move(region, 2, -7), region -> 8 * (region + 1));
        ScrimshawKernel k = fields();
        k.move(3, -11, 8);
        c.due("along x, and along y", "-2 5 1 1", () -> told(k, 3));
    }

    @Sentence(of = "Promise 10", says = "- `region`: the region\n- `quarters`: how many")
    static void promise10_theRegionAndHowManyQuarters(Checks c) {
        changesThatRegion(c, ParametersTest::rings, (k, region) -> k.turn(region, 1), region -> 8 * (region + 1));
        String[] dues = {"9 -3 1 1", "2 9 1 1", "-10 2 1 1", "-3 -10 1 1"};
        for (int n = 0; n < 4; n++) {
            int quarters = n;
            ScrimshawKernel k = fields();
            k.turn(3, quarters);
            c.due(quarters + " quarters", dues[quarters], () -> told(k, 3));
        }
    }

    @Sentence(of = "Promise 11", says = "- `region`: the region")
    static void promise11_theRegion(Checks c) {
        changesThatRegion(c, ParametersTest::stairs, (k, region) -> k.mirror(region),
            region -> (region + 1) * (region + 2) / 2);
    }

    @Sentence(of = "Promise 12", says = "- `region`: the region\n- `by`: how far\n- `kind`: the kind")
    static void promise12_theRegionHowFarAndTheKind(Checks c) {
        for (int by = 1; by <= 8; by++) {
            int far = by;
            changesThatRegion(c, ParametersTest::fields, (k, region) -> k.grow(region, far, 0),
                region -> (2 * far + 1) * (2 * far + 1));
            changesThatRegion(c, ParametersTest::fields, (k, region) -> k.grow(region, far, 1),
                region -> 2 * far * (far + 1) + 1);
        }
    }

    @Sentence(of = "Promise 13", says = "- `region`: the region\n- `by`: how far\n- `kind`: the kind")
    static void promise13_theRegionHowFarAndTheKind(Checks c) {
        for (int by = 1; by <= 8; by++) {
            int far = by;
            changesThatRegion(c, () -> grown(0), (k, region) -> k.shrink(region, far, 0),
                region -> (17 - 2 * far) * (17 - 2 * far));
            changesThatRegion(c, () -> grown(1), (k, region) -> k.shrink(region, far, 1),
                region -> 2 * (8 - far) * (9 - far) + 1);
        }
        ScrimshawKernel k = grown(1);
        k.shrink(5, 2, 0);
        // The greater distance 2 reaches as far as the sum 4: of the distances up to 8, those up to 4 are left.
        c.due("the other kind", 2 * 4 * 5 + 1, () -> k.area(5));
    }

    private static ScrimshawKernel grown(int kind) {
        ScrimshawKernel k = new ScrimshawKernel();
        for (int region = 0; region < 8; region++) {
            k.addRectangle(region, 2 * region, -region, 1, 1);
            k.grow(region, 8, kind);
        }
        return k;
    }

    @Sentence(of = "Promise 14", says = "- `region`: the region")
    static void promise14_theRegion(Checks c) {
        changesThatRegion(c, ParametersTest::rings, (k, region) -> k.fill(region), region -> 9 * (region + 1));
        asksThatRegion(c, rings(), (k, region) -> k.fill(region), region -> region + 1);
    }

    @Sentence(of = "Promise 15", says = "- `region`: the region\n- `x`: the x of the field\n- `y`: its y")
    static void promise15_theRegionAndTheField(Checks c) {
        changesThatRegion(c, () -> {
            ScrimshawKernel k = rings();
            for (int region = 0; region < 8; region++) {
                k.addRectangle(region, -9, -21, 2, 3);
            }
            return k;
        }, (k, region) -> k.keepPiece(region, -8, -19), region -> 6);
        ScrimshawKernel k = two();
        k.keepPiece(2, 4, 2);
        c.due("the piece with the field", "3 1 4 2", () -> told(k, 2));
    }

    @Sentence(of = "Promise 16", says = "- `region`: the region")
    static void promise16_theRegion(Checks c) {
        changesThatRegion(c, ParametersTest::rings, (k, region) -> k.clear(region), region -> 0);
        asksThatRegion(c, rings(), (k, region) -> k.clear(region), region -> 8 * (region + 1));
    }

    @Sentence(of = "Promise 18", says = "- `region`: a region")
    static void promise18_aRegion(Checks c) {
        asksThatRegion(c, rings(), (k, region) -> k.area(region), region -> 8 * (region + 1));
    }

    @Sentence(of = "Promise 19", says = "- `region`: a region")
    static void promise19_aRegion(Checks c) {
        asksThatRegion(c, rings(), (k, region) -> k.edges(region), region -> 16 * (region + 1));
    }

    @Sentence(of = "Promise 20", says = "- `region`: a region")
    static void promise20_aRegion(Checks c) {
        asksThatRegion(c, rings(), (k, region) -> k.pieces(region), region -> region + 1);
    }

    @Sentence(of = "Promise 21", says = "- `region`: a region")
    static void promise21_aRegion(Checks c) {
        asksThatRegion(c, rings(), (k, region) -> k.holes(region), region -> region + 1);
    }

    @Sentence(of = "Promise 22", says = "- `region`: a region\n- `x`: an x\n- `y`: a y")
    static void promise22_aRegionAnXAndAY(Checks c) {
        ScrimshawKernel k = fields();
        asksThatPair(c, k, (kernel, one, other) -> kernel.has(one, 3 * other, -other), (one, other) -> one == other);
        c.due("x and y, not y and x", "true false", () -> k.has(5, 15, -5) + " " + k.has(5, -5, 15));
    }

    @Sentence(of = "Promise 23", says = "- `region`: a region\n"
        + "- `side`: 0 the least x of its fields, 1 the least y, 2 the greatest x, 3 the greatest y")
    static void promise23_aRegionAndASide(Checks c) {
        asksThatRegion(c, rings(), (k, region) -> Cases.bounds(k, region),
            region -> -3 * region + " " + region + " " + (region + 2) + " " + (region + 2));
        asksThatRegion(c, two(), (k, region) -> Cases.bounds(k, region), region -> region == 2 ? "-5 -4 6 2" : "0 0 0 0");
    }

    @Sentence(of = "Promise 24", says = "- `region`: a region")
    static void promise24_aRegion(Checks c) {
        asksThatRegion(c, rings(), (k, region) -> k.contours(region), region -> 2 * (region + 1));
    }

    @Sentence(of = "Promise 25", says = "- `region`: a region\n- `contour`: a contour, from 0 on")
    static void promise25_aRegionAndAContour(Checks c) {
        asksThatRegion(c, stairs(), (k, region) -> k.corners(region, 0), region -> 2 * region + 4);
        ScrimshawKernel k = two();
        k.addRectangle(2, 3, 1, 1, 5);
        c.due("the contours 0 and 1", "4 6", () -> k.corners(2, 0) + " " + k.corners(2, 1));
    }

    @Sentence(of = "Promise 26", says = "- `region`: a region\n- `contour`: a contour\n- `corner`: a corner of it")
    static void promise26_aRegionAContourAndACorner(Checks c) {
        asksThatRegion(c, rings(), (k, region) -> k.cornerX(region, 0, 0), region -> -3 * region);
        int[][] dues = {{-5, -3, -3, -5}, {3, 7, 7, 3}};
        cornersOfTwo(c, dues, (k, contour, corner) -> k.cornerX(2, contour, corner));
    }

    @Sentence(of = "Promise 27", says = "- `region`: a region\n- `contour`: a contour\n- `corner`: a corner of it")
    static void promise27_aRegionAContourAndACorner(Checks c) {
        asksThatRegion(c, rings(), (k, region) -> k.cornerY(region, 0, 0), region -> region);
        int[][] dues = {{-4, -4, -1, -1}, {1, 1, 3, 3}};
        cornersOfTwo(c, dues, (k, contour, corner) -> k.cornerY(2, contour, corner));
    }

    private static void cornersOfTwo(Checks c, int[][] dues, PairAsk ask) {
        ScrimshawKernel k = two();
        for (int n = 0; n < 8; n++) {
            int contour = n / 4;
            int corner = n % 4;
            c.due("contour " + contour + " corner " + corner, dues[contour][corner], () -> ask.on(k, contour, corner));
        }
    }

    @Sentence(of = "Promise 28", says = "- `region`: a region\n- `contour`: a contour")
    static void promise28_aRegionAndAContour(Checks c) {
        asksThatRegion(c, stairs(), (k, region) -> k.areaOf(region, 0), region -> (region + 1) * (region + 2) / 2);
        c.due("the contours 0 and 1", "6 8", () -> two().areaOf(2, 0) + " " + two().areaOf(2, 1));
    }

    @Sentence(of = "Promise 29", says = "- `region`: a region")
    static void promise29_aRegion(Checks c) {
        asksThatRegion(c, rings(), (k, region) -> k.strips(region), region -> 4 * (region + 1));
    }

    @Sentence(of = "Promise 30", says = "- `region`: a region\n- `strip`: a strip, from 0 on\n"
        + "- `what`: 0 the x of its left lower point, 1 the y, 2 its width, 3 its height")
    static void promise30_aRegionAStripAndWhat(Checks c) {
        asksThatRegion(c, rings(), (k, region) -> Cases.strip(k, region, 0), region -> -3 * region + " " + region + " 3 1");
        c.due("the strips 0 and 1", "-5 -4 2 3, 3 1 4 2", () -> told(two(), 2));
    }

    /** One field has four numbers; a row of twelve is asked for those that are so far apart. */
    private static void hatching(Checks c, Cases.RegionAct ofField, Cases.RegionAct ofRow) {
        int[] numbers = {2, 5, 7, 3};
        for (int n = 0; n < 16; n++) {
            int kind = n / 4;
            int first = numbers[n % 4];
            c.due("kind " + kind + " first " + first, first == numbers[kind] ? 1 : 0,
                () -> ofField.on(Cases.at(5, 2), 100 * kind + first));
        }
        int[][] dues = {{1, 0, 12}, {3, 0, 4}, {3, 2, 4}, {4, 1, 3}, {5, 1, 3}, {5, 2, 2}, {5, 4, 2}, {7, 3, 2}, {7, 5, 1},
            {12, 11, 1}};
        ScrimshawKernel row = new ScrimshawKernel();
        row.addRectangle(0, 0, 0, 12, 1);
        for (int[] due : dues) {
            c.due("every " + due[0] + " first " + due[1], due[2], () -> ofRow.on(row, 100 * due[0] + due[1]));
        }
    }

    @Sentence(of = "Promise 31", says = "- `region`: a region\n- `kind`: the kind\n- `every`: how far the lines are apart\n"
        + "- `first`: one of the numbers")
    static void promise31_aRegionTheKindHowFarAndTheFirst(Checks c) {
        asksThatRegion(c, rings(), (k, region) -> k.hatch(region, 0, 1, 0), region -> 4 * (region + 1));
        hatching(c, (k, of) -> k.hatch(0, of / 100, 20, of % 100), (k, of) -> k.hatch(0, 1, of / 100, of % 100));
    }

    @Sentence(of = "Promise 32", says = "- `region`: a region\n- `kind`: the kind of a hatching\n"
        + "- `every`: how far the lines are apart\n- `first`: one of the numbers")
    static void promise32_aRegionTheKindHowFarAndTheFirst(Checks c) {
        asksThatRegion(c, rings(), (k, region) -> k.hatched(region, 0, 1, 0), region -> 8 * (region + 1));
        hatching(c, (k, of) -> k.hatched(0, of / 100, 20, of % 100), (k, of) -> k.hatched(0, 1, of / 100, of % 100));
    }

    @Sentence(of = "Promise 33", says = "- `one`: a region\n- `other`: another one, or the same")
    static void promise33_oneAndOther(Checks c) {
        asksThatPair(c, fields(), (k, one, other) -> k.apart(one, other), (one, other) -> 3 * Math.abs(one - other));
    }

    @Sentence(of = "Promise 34", says = "- `one`: a region\n- `other`: another one, or the same")
    static void promise34_oneAndOther(Checks c) {
        ScrimshawKernel k = new ScrimshawKernel();
        for (int region = 0; region < 8; region++) {
            k.addRectangle(region, region, -region, 1 + region % 3, 2);
        }
        asksThatPair(c, k, (kernel, one, other) -> kernel.isSameForm(one, other), (one, other) -> one % 3 == other % 3);
    }

    @Sentence(of = "Promise 35", says = "- `region`: a region")
    static void promise35_aRegion(Checks c) {
        asksThatRegion(c, rings(), (k, region) -> k.middleX(region), region -> 1.0 - region);
    }
}
