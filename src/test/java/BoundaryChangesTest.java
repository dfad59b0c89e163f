import java.io.IOException;

/** Promises 7 to 17: a test for each sentence that names a boundary case. */
public final class BoundaryChangesTest {
    private static final int MIN = Cases.MIN;
    private static final int MAX = Cases.MAX;

    private interface Sized {
        Object on(ScrimshawKernel kernel, int by, int kind);
    }

    public static void main(String[] args) throws IOException {
        Sentences.run(BoundaryChangesTest.class);
    }

    /** A field at a limit, or next to one, for each of the four, and where it would go a step too far. */
    private static final int[][] WAYS = {{-1, 0}, {1, 0}, {0, -1}, {0, 1}};

    private static int limit(int way) {
        return way < 0 ? -32 : way > 0 ? 31 : 0;
    }

    @Sentence(of = "Promise 7", says = "Unites a region with a rectangle.")
    static void promise7_unitesARegionWithARectangle(Checks c) {
        ScrimshawKernel k = new ScrimshawKernel();
        Cases.addCorners(k, 0);
        c.due("the least ones, at the limits", "4 -32 -32 31 31", () -> k.area(0) + " " + Cases.bounds(k, 0));
        c.due("one of them alone", "true false", () -> k.has(0, 31, 31) + " " + k.has(0, 30, 31));
        k.addRectangle(0, -32, 0, 64, 1);
        c.due("a row from limit to limit", "68 64 1",
            () -> k.area(0) + " " + k.strip(0, 2, 2) + " " + k.strip(0, 2, 3));
        k.addRectangle(1, 0, -32, 1, 64);
        c.due("a column from limit to limit", "0 -32 1 64", () -> Cases.strip(k, 1, 0));
        k.addRectangle(1, -32, -32, 64, 64);
        c.due("the greatest", "1 -32 -32 64 64", () -> k.strips(1) + " " + Cases.strip(k, 1, 0));
        c.due("one that has no field of its own", "4096 true", () -> {
            int area = k.addRectangle(1, 31, 31, 1, 1);
            return area + " " + k.has(1, 31, 31);
        });
        k.addRectangle(2, -32, -32, 63, 63);
        c.due("one less than the greatest", "3969 -32 -32 30 30", () -> k.area(2) + " " + Cases.bounds(k, 2));
        k.addRectangle(3, -31, -31, 63, 63);
        c.due("at the other end", "3969 -31 -31 31 31", () -> k.area(3) + " " + Cases.bounds(k, 3));
        c.due("none elsewhere", 0, () -> k.area(4));
    }

    @Sentence(of = "Promise 7", says = "the x of the left lower point of the rectangle")
    static void promise7_xAndYAreOfTheLeftLowerPoint(Checks c) {
        ScrimshawKernel k = new ScrimshawKernel();
        k.addRectangle(0, -2, 3, 3, 2);
        c.due("as far as x + width - 1 and y + height - 1", "-2 3 0 4", () -> Cases.bounds(k, 0));
    }

    @Sentence(of = "Promise 7", says = "Returns the area of the region then.")
    static void promise7_returnsTheAreaOfTheRegion(Checks c) {
        ScrimshawKernel k = new ScrimshawKernel();
        c.due("the least one", 1, () -> k.addRectangle(0, 0, 0, 1, 1));
        c.due("the same again", 1, () -> k.addRectangle(0, 0, 0, 1, 1));
        c.due("one upon it", 6, () -> k.addRectangle(0, 0, 0, 3, 2));
        c.due("the greatest", 4096, () -> k.addRectangle(0, -32, -32, 64, 64));
        c.due("upon every field", 4096, () -> k.addRectangle(0, 5, 5, 9, 9));
    }

    @Sentence(of = "Promise 7", says = "Throws `IndexOutOfBoundsException` if there is no such region")
    static void promise7_throwsIfThereIsNoSuchRegion(Checks c) {
        Cases.regionsEnd(c, (k, region) -> k.addRectangle(region, 0, 0, 1, 1));
        Cases.regionsEnd(c, (k, region) -> k.addRectangle(region, -32, -32, 64, 64));
    }

    @Sentence(of = "Promise 7", says = "Throws `IllegalArgumentException` if width or height is not 1 to 64")
    static void promise7_throwsIfWidthOrHeightIsNot1To64(Checks c) {
        Cases.answers(c, "1 by 64", k -> k.addRectangle(0, -32, -32, 1, 64), Cases::busy);
        Cases.answers(c, "64 by 1", k -> k.addRectangle(0, -32, -32, 64, 1), Cases::busy);
        int[] none = {0, 65, -1, -64, 128, MIN, MAX};
        for (int size : none) {
            Cases.refused(c, "width " + size, Cases.ARGUMENT, Cases::busy, k -> k.addRectangle(0, -32, -32, size, 1));
            Cases.refused(c, "height " + size, Cases.ARGUMENT, Cases::busy, k -> k.addRectangle(0, -32, -32, 1, size));
            Cases.refused(c, "both " + size, Cases.ARGUMENT, Cases::busy, k -> k.addRectangle(3, 0, 0, size, size));
            Cases.refused(c, "no region is named first, width " + size, Cases.INDEX, Cases::busy,
                k -> k.addRectangle(8, -32, -32, size, 1));
            Cases.refused(c, "no region is named first, height " + size, Cases.INDEX, Cases::busy,
                k -> k.addRectangle(-1, -32, -32, 1, size));
        }
    }

    @Sentence(of = "Promise 7",
        says = "Throws `IllegalStateException` if a field would have an x or y less than -32 or greater than 31")
    static void promise7_throwsIfAFieldWouldBeBeyond(Checks c) {
        // Each row: where it begins, how long it is; of those that wrap around, the sum is small again.
        int[][] beyond = {{-33, 1}, {-33, 64}, {32, 1}, {31, 2}, {-31, 64}, {0, 33}, {30, 3}, {MAX, 1}, {MAX, 2}, {MAX, 64},
            {MAX - 31, 64}, {MAX - 62, 64}, {MIN, 1}, {MIN, 64}, {64, 1}, {-64, 64}, {-96, 64}};
        for (int[] b : beyond) {
            String of = b[0] + ", as long as " + b[1];
            Cases.refused(c, "x " + of, Cases.STATE, Cases::busy, k -> k.addRectangle(0, b[0], 0, b[1], 1));
            Cases.refused(c, "y " + of, Cases.STATE, Cases::busy, k -> k.addRectangle(0, 0, b[0], 1, b[1]));
            Cases.refused(c, "both " + of, Cases.STATE, Cases::busy, k -> k.addRectangle(1, b[0], b[0], b[1], b[1]));
            Cases.refused(c, "no region is named first, x " + of, Cases.INDEX, Cases::busy,
                k -> k.addRectangle(8, b[0], 0, b[1], 1));
            Cases.refused(c, "the size is named first, x " + of, Cases.ARGUMENT, Cases::busy,
                k -> k.addRectangle(0, b[0], 0, b[1], 65));
            Cases.refused(c, "the size is named first, y " + of, Cases.ARGUMENT, Cases::busy,
                k -> k.addRectangle(0, 0, b[0], 0, b[1]));
            Cases.refused(c, "no region is named ahead of both, x " + of, Cases.INDEX, Cases::busy,
                k -> k.addRectangle(-1, b[0], 0, b[1], 0));
        }
        int[][] within = {{-32, 1}, {31, 1}, {-32, 64}, {0, 32}, {-31, 63}, {30, 2}};
        for (int[] w : within) {
            String of = w[0] + ", as long as " + w[1];
            Cases.answers(c, "x " + of, k -> k.addRectangle(0, w[0], 0, w[1], 1), Cases::busy);
            Cases.answers(c, "y " + of, k -> k.addRectangle(0, 0, w[0], 1, w[1]), Cases::busy);
        }
    }

    @Sentence(of = "Promise 8", says = "Makes a region what two regions come to by an operation: 0 what is in one or the "
        + "other, 1 what is in both, 2 what is in the first one, but not in the other, 3 what is in just one of them.")
    static void promise8_makesARegionWhatTwoComeTo(Checks c) {
        // The regions 1 (every field), 3 (empty) and 2 (four fields at the limits) by the operations 0 to 3.
        int[][] pairs = {{3, 3}, {3, 1}, {1, 3}, {1, 1}, {1, 2}, {2, 1}, {2, 3}, {3, 2}, {2, 2}};
        int[][] areas = {{0, 0, 0, 0}, {4096, 0, 0, 4096}, {4096, 0, 4096, 4096}, {4096, 4096, 0, 0},
            {4096, 4, 4092, 4092}, {4096, 4, 0, 4092}, {4, 0, 4, 4}, {4, 0, 0, 4}, {4, 4, 0, 0}};
        for (int n = 0; n < pairs.length; n++) {
            int[] pair = pairs[n];
            for (int o = 0; o < 4; o++) {
                int operation = o;
                int due = areas[n][o];
                String of = pair[0] + " and " + pair[1] + " by " + operation;
                c.due("into a third, " + of, due, () -> {
                    ScrimshawKernel k = Cases.busy();
                    k.combine(7, pair[0], pair[1], operation);
                    return k.area(7);
                });
                c.due("into the first one, " + of, due, () -> {
                    ScrimshawKernel k = Cases.busy();
                    k.combine(pair[0], pair[0], pair[1], operation);
                    return k.area(pair[0]);
                });
                c.due("into the other one, " + of, due, () -> {
                    ScrimshawKernel k = Cases.busy();
                    k.combine(pair[1], pair[0], pair[1], operation);
                    return k.area(pair[1]);
                });
            }
        }
        ScrimshawKernel k = Cases.busy();
        k.combine(7, 1, 2, 2);
        c.due("without the fields at the limits", "false true", () -> k.has(7, -32, 31) + " " + k.has(7, -31, 31));
        c.due("both stay as they were", "4096 4", () -> k.area(1) + " " + k.area(2));
    }

    @Sentence(of = "Promise 8", says = "Returns its area then.")
    static void promise8_returnsItsAreaThen(Checks c) {
        c.due("the empty region", 0, () -> Cases.busy().combine(1, 3, 3, 0));
        c.due("every field", 4096, () -> Cases.busy().combine(3, 1, 2, 0));
        c.due("in place of itself", 0, () -> Cases.busy().combine(1, 1, 1, 3));
    }

    @Sentence(of = "Promise 8", says = "Throws `IndexOutOfBoundsException` if there is no such region (one of the three)")
    static void promise8_throwsIfOneOfTheThreeIsNoRegion(Checks c) {
        Cases.regionsEnd(c, (k, region) -> k.combine(region, 0, 1, 0));
        Cases.regionsEnd(c, (k, region) -> k.combine(0, region, 1, 1));
        Cases.regionsEnd(c, (k, region) -> k.combine(0, 1, region, 2));
        Cases.regionsEnd(c, (k, region) -> k.combine(region, region, region, 3));
    }

    @Sentence(of = "Promise 8", says = "Throws `IllegalArgumentException` if operation is not 0 to 3")
    static void promise8_throwsIfOperationIsNot0To3(Checks c) {
        Cases.answers(c, "operation 0", k -> k.combine(0, 1, 2, 0), Cases::busy);
        Cases.answers(c, "operation 3", k -> k.combine(0, 1, 2, 3), Cases::busy);
        int[] none = {-1, 4, MIN, MAX};
        for (int operation : none) {
            String of = ", operation " + operation;
            Cases.refused(c, "three regions" + of, Cases.ARGUMENT, Cases::busy, k -> k.combine(0, 1, 2, operation));
            Cases.refused(c, "no region is named first" + of, Cases.INDEX, Cases::busy,
                k -> k.combine(8, 1, 2, operation));
            Cases.refused(c, "no first one is named first" + of, Cases.INDEX, Cases::busy,
                k -> k.combine(0, -1, 2, operation));
            Cases.refused(c, "no other one is named first" + of, Cases.INDEX, Cases::busy,
                k -> k.combine(0, 1, 8, operation));
        }
    }

    @Sentence(of = "Promise 9", says = "Moves a region.")
    static void promise9_movesARegion(Checks c) {
        for (int[] way : WAYS) {
            String of = " along " + way[0] + ", " + way[1];
            ScrimshawKernel k = Cases.at(-limit(way[0]) - (way[0] == 0 ? 0 : 1), -limit(way[1]) - (way[1] == 0 ? 0 : 1));
            k.move(0, 63 * way[0], 63 * way[1]);
            String far = limit(way[0]) + " " + limit(way[1]);
            c.due("from limit to limit" + of, far + " " + far, () -> Cases.bounds(k, 0));
            k.move(0, -way[0], -way[1]);
            c.due("and one back" + of, true, () -> k.has(0, limit(way[0]) - way[0], limit(way[1]) - way[1]));
        }
        ScrimshawKernel k = Cases.busy();
        k.move(1, 0, 0);
        c.due("every field by 0", "4096 1 -32 -32 64 64",
            () -> k.area(1) + " " + k.strips(1) + " " + Cases.strip(k, 1, 0));
        k.move(5, 8, -8);
        c.due("one of 48 to both limits", "-16 -32 31 15", () -> Cases.bounds(k, 5));
        k.move(3, 64, -64);
        c.due("the empty region as far as can be", 0, () -> k.area(3));
    }

    @Sentence(of = "Promise 9", says = "Returns its area.")
    static void promise9_returnsItsArea(Checks c) {
        c.due("of the empty region", 0, () -> Cases.busy().move(3, 64, 64));
        c.due("of every field", 4096, () -> Cases.busy().move(1, 0, 0));
        c.due("of fields that go to the limits", 25, () -> Cases.busy().move(4, 29, -30));
    }

    @Sentence(of = "Promise 9", says = "Throws `IndexOutOfBoundsException` if there is no such region")
    static void promise9_throwsIfThereIsNoSuchRegion(Checks c) {
        Cases.regionsEnd(c, (k, region) -> k.move(region, 0, 0));
    }

    @Sentence(of = "Promise 9", says = "Throws `IllegalArgumentException` if byX or byY is not -64 to 64")
    static void promise9_throwsIfByXOrByYIsNot64(Checks c) {
        int[] most = {-64, 64};
        for (int by : most) {
            Cases.answers(c, "byX of the empty region " + by, k -> k.move(3, by, 0), Cases::busy);
            Cases.answers(c, "byY of the empty region " + by, k -> k.move(3, 0, by), Cases::busy);
            Cases.refused(c, "byX of one field " + by, Cases.STATE, Cases::busy, k -> k.move(7, by, 0));
            Cases.refused(c, "byY of one field " + by, Cases.STATE, Cases::busy, k -> k.move(7, 0, by));
        }
        int[] none = {-65, 65, MIN, MAX, MIN + 32, MAX - 31};
        for (int by : none) {
            for (int r = 0; r < 8; r++) {
                int region = r;
                String of = " of region " + region + " " + by;
                Cases.refused(c, "byX" + of, Cases.ARGUMENT, Cases::busy, k -> k.move(region, by, 0));
                Cases.refused(c, "byY" + of, Cases.ARGUMENT, Cases::busy, k -> k.move(region, 0, by));
            }
            Cases.refused(c, "no region is named first, byX " + by, Cases.INDEX, Cases::busy, k -> k.move(8, by, 0));
            Cases.refused(c, "no region is named first, byY " + by, Cases.INDEX, Cases::busy, k -> k.move(-1, 0, by));
        }
    }

    @Sentence(of = "Promise 9",
        says = "Throws `IllegalStateException` if a field would have an x or y less than -32 or greater than 31")
    static void promise9_throwsIfAFieldWouldBeBeyond(Checks c) {
        for (int[] way : WAYS) {
            String of = " along " + way[0] + ", " + way[1];
            Cases.Made atLimit = () -> Cases.at(limit(way[0]), limit(way[1]));
            Cases.refused(c, "one field by 1" + of, Cases.STATE, atLimit, k -> k.move(0, way[0], way[1]));
            Cases.refused(c, "one field by 64" + of, Cases.STATE, atLimit, k -> k.move(0, 64 * way[0], 64 * way[1]));
            Cases.refused(c, "one field back by 64" + of, Cases.STATE, atLimit, k -> k.move(0, -64 * way[0], -64 * way[1]));
            Cases.answers(c, "one field by 0" + of, k -> k.move(0, 0, 0), atLimit);
            Cases.refused(c, "every field by 1" + of, Cases.STATE, Cases::busy, k -> k.move(1, way[0], way[1]));
            Cases.refused(c, "every field by 64" + of, Cases.STATE, Cases::busy, k -> k.move(1, 64 * way[0], 64 * way[1]));
            Cases.refused(c, "one of many beyond" + of, Cases.STATE, Cases::busy, k -> k.move(2, way[0], way[1]));
            Cases.refused(c, "one of 48 by 9" + of, Cases.STATE, Cases::busy, k -> k.move(5, 9 * way[0], 9 * way[1]));
            Cases.answers(c, "one of 48 by 8" + of, k -> k.move(5, 8 * way[0], 8 * way[1]), Cases::busy);
            Cases.answers(c, "the empty region by 64" + of, k -> k.move(3, 64 * way[0], 64 * way[1]), Cases::busy);
        }
        Cases.refused(c, "byY 65 is named first", Cases.ARGUMENT, Cases::busy, k -> k.move(1, 1, 65));
        Cases.refused(c, "byX -65 is named first", Cases.ARGUMENT, Cases::busy, k -> k.move(1, -65, 1));
    }

    @Sentence(of = "Promise 10", says = "Turns a region about the point (0, 0) by quarters, to the left.")
    static void promise10_turnsAboutThePointToTheLeft(Checks c) {
        // The four fields at the point itself, then those at two limits, then one at the limit along x alone.
        int[][][] rounds = {{{0, 0}, {-1, 0}, {-1, -1}, {0, -1}}, {{31, 31}, {-32, 31}, {-32, -32}, {31, -32}},
            {{31, 0}, {-1, 31}, {-32, -1}, {0, -32}}};
        for (int[][] round : rounds) {
            for (int from = 0; from < 4; from++) {
                for (int by = 0; by < 4; by++) {
                    int[] was = round[from];
                    int[] is = round[(from + by) % 4];
                    int quarters = by;
                    ScrimshawKernel k = Cases.at(was[0], was[1]);
                    k.turn(0, quarters);
                    c.due(was[0] + ", " + was[1] + " by " + quarters, is[0] + " " + is[1] + " " + is[0] + " " + is[1],
                        () -> Cases.bounds(k, 0));
                }
            }
        }
        for (int n = 0; n < 4; n++) {
            int quarters = n;
            ScrimshawKernel k = Cases.busy();
            k.turn(1, quarters);
            k.turn(3, quarters);
            c.due("every field by " + quarters, "4096 1", () -> k.area(1) + " " + k.strips(1));
            c.due("the empty region by " + quarters, "0 0 0 0", () -> Cases.bounds(k, 3));
        }
    }

    @Sentence(of = "Promise 10", says = "Returns its area.")
    static void promise10_returnsItsArea(Checks c) {
        for (int n = 0; n < 4; n++) {
            int quarters = n;
            c.due("of the empty region by " + quarters, 0, () -> Cases.busy().turn(3, quarters));
            c.due("of every field by " + quarters, 4096, () -> Cases.busy().turn(1, quarters));
            c.due("of four at the limits by " + quarters, 4, () -> Cases.busy().turn(2, quarters));
        }
    }

    @Sentence(of = "Promise 10", says = "Throws `IndexOutOfBoundsException` if there is no such region")
    static void promise10_throwsIfThereIsNoSuchRegion(Checks c) {
        Cases.regionsEnd(c, (k, region) -> k.turn(region, 0));
        Cases.regionsEnd(c, (k, region) -> k.turn(region, 3));
    }

    @Sentence(of = "Promise 10", says = "Throws `IllegalArgumentException` if quarters is not 0 to 3")
    static void promise10_throwsIfQuartersIsNot0To3(Checks c) {
        Cases.answers(c, "quarters 0", k -> k.turn(2, 0), Cases::busy);
        Cases.answers(c, "quarters 3", k -> k.turn(2, 3), Cases::busy);
        int[] none = {-1, 4, MIN, MAX};
        for (int quarters : none) {
            Cases.refused(c, "quarters " + quarters, Cases.ARGUMENT, Cases::busy, k -> k.turn(0, quarters));
            Cases.refused(c, "of the empty region " + quarters, Cases.ARGUMENT, Cases::busy, k -> k.turn(3, quarters));
            Cases.refused(c, "region 8 is named first, " + quarters, Cases.INDEX, Cases::busy, k -> k.turn(8, quarters));
            Cases.refused(c, "region -1 is named first, " + quarters, Cases.INDEX, Cases::busy, k -> k.turn(-1, quarters));
        }
    }

    @Sentence(of = "Promise 11", says = "Mirrors a region: left and right of the line x = 0 change places.")
    static void promise11_leftAndRightChangePlaces(Checks c) {
        int[][] pairs = {{0, -1}, {-1, 0}, {31, -32}, {-32, 31}, {30, -31}};
        int[] rows = {-32, 0, 31};
        for (int[] pair : pairs) {
            for (int y : rows) {
                ScrimshawKernel k = Cases.at(pair[0], y);
                k.mirror(0);
                c.due(pair[0] + ", " + y, pair[1] + " " + y + " " + pair[1] + " " + y, () -> Cases.bounds(k, 0));
            }
        }
        ScrimshawKernel k = Cases.busy();
        k.mirror(1);
        k.mirror(2);
        k.mirror(3);
        c.due("every field", "4096 1", () -> k.area(1) + " " + k.strips(1));
        c.due("four at the limits", "true true true true",
            () -> k.has(2, -32, -32) + " " + k.has(2, 31, -32) + " " + k.has(2, -32, 31) + " " + k.has(2, 31, 31));
        c.due("the empty region", "0 0 0 0", () -> Cases.bounds(k, 3));
    }

    @Sentence(of = "Promise 11", says = "Returns its area.")
    static void promise11_returnsItsArea(Checks c) {
        c.due("of the empty region", 0, () -> Cases.busy().mirror(3));
        c.due("of every field", 4096, () -> Cases.busy().mirror(1));
        c.due("of four at the limits", 4, () -> Cases.busy().mirror(2));
    }

    @Sentence(of = "Promise 11", says = "Throws `IndexOutOfBoundsException` if there is no such region")
    static void promise11_throwsIfThereIsNoSuchRegion(Checks c) {
        Cases.regionsEnd(c, (k, region) -> k.mirror(region));
    }

    @Sentence(of = "Promise 12", says = "Makes a region wider: each field comes in that is at most so far from one of the "
        + "region, where the distance is the greater one of those along x and y (kind 0), or the sum of both (kind 1).")
    static void promise12_makesARegionWider(Checks c) {
        for (int n = 0; n <= 8; n++) {
            int by = n;
            ScrimshawKernel wide = Cases.at(0, 0);
            wide.grow(0, by, 0);
            c.due("kind 0 by " + by, (2 * by + 1) * (2 * by + 1), () -> wide.area(0));
            c.due("at the corner, kind 0 by " + by, "true false false",
                () -> wide.has(0, by, -by) + " " + wide.has(0, by + 1, 0) + " " + wide.has(0, by, -by - 1));
            ScrimshawKernel thin = Cases.at(0, 0);
            thin.grow(0, by, 1);
            c.due("kind 1 by " + by, 2 * by * (by + 1) + 1, () -> thin.area(0));
            c.due("at the ends, kind 1 by " + by, "true true false false", () -> thin.has(0, by, 0) + " "
                + thin.has(0, 0, -by) + " " + thin.has(0, by, 1) + " " + thin.has(0, by + 1, 0));
        }
        for (int[] way : WAYS) {
            for (int kind = 0; kind < 2; kind++) {
                ScrimshawKernel k = Cases.at(limit(way[0]) - 8 * way[0], limit(way[1]) - 8 * way[1]);
                k.grow(0, 8, kind);
                c.due("to the limit along " + way[0] + ", " + way[1] + " kind " + kind, true,
                    () -> k.has(0, limit(way[0]), limit(way[1])));
            }
        }
        // Between two fields that are two apart, the field in the middle is near to both.
        String[] apart = {"#.#", "#/./#", "#.#/.../#.#"};
        int[][] dues = {{15, 9}, {15, 9}, {25, 16}};
        for (int n = 0; n < apart.length; n++) {
            for (int kind = 0; kind < 2; kind++) {
                ScrimshawKernel k = Cases.drawn(apart[n]);
                k.grow(0, 1, kind);
                c.due(apart[n] + " kind " + kind, dues[n][kind], () -> k.area(0));
            }
        }
        ScrimshawKernel k = Cases.busy();
        k.grow(3, 8, 0);
        k.grow(1, 0, 1);
        k.grow(5, 8, 0);
        c.due("the empty region", 0, () -> k.area(3));
        c.due("every field by 0", 4096, () -> k.area(1));
        c.due("one of 48 to every field", "4096 1", () -> k.area(5) + " " + k.strips(5));
        k.undo();
        k.grow(5, 8, 1);
        // The four corners stay out: 4 times 1 + 2 + .. + 8 fields.
        c.due("one of 48 by the sum of both", 4096 - 4 * 36, () -> k.area(5));
        c.due("without the corners", "false true", () -> k.has(5, -32, -25) + " " + k.has(5, -32, -24));
    }

    @Sentence(of = "Promise 12", says = "Returns its area then.")
    static void promise12_returnsItsAreaThen(Checks c) {
        for (int n = 0; n < 2; n++) {
            int kind = n;
            c.due("of the empty region, kind " + kind, 0, () -> Cases.busy().grow(3, 8, kind));
            c.due("of every field, kind " + kind, 4096, () -> Cases.busy().grow(1, 0, kind));
            c.due("of four at the limits, kind " + kind, 4, () -> Cases.busy().grow(2, 0, kind));
            c.due("of one field, kind " + kind, kind == 0 ? 289 : 145, () -> Cases.busy().grow(7, 8, kind));
        }
    }

    @Sentence(of = "Promise 12", says = "Throws `IndexOutOfBoundsException` if there is no such region")
    static void promise12_throwsIfThereIsNoSuchRegion(Checks c) {
        Cases.regionsEnd(c, (k, region) -> k.grow(region, 0, 0));
        Cases.regionsEnd(c, (k, region) -> k.grow(region, 0, 1));
    }

    private static void sizesEnd(Checks c, Sized sized) {
        int[][] most = {{0, 0}, {0, 1}, {8, 0}, {8, 1}};
        for (int[] m : most) {
            Cases.answers(c, "by " + m[0] + " kind " + m[1], k -> sized.on(k, m[0], m[1]), () -> Cases.at(0, 0));
        }
        int[][] none = {{-1, 0}, {9, 0}, {-1, 1}, {9, 1}, {MIN, 0}, {MAX, 1}, {0, -1}, {0, 2}, {8, -1}, {8, 2}, {0, MIN},
            {8, MAX}, {9, 2}, {-1, -1}};
        for (int[] n : none) {
            Cases.refused(c, "by " + n[0] + " kind " + n[1], Cases.ARGUMENT, () -> Cases.at(0, 0),
                k -> sized.on(k, n[0], n[1]));
            Cases.refused(c, "of the empty region, by " + n[0] + " kind " + n[1], Cases.ARGUMENT, ScrimshawKernel::new,
                k -> sized.on(k, n[0], n[1]));
            Cases.refused(c, "of every field, by " + n[0] + " kind " + n[1], Cases.ARGUMENT, Cases::whole,
                k -> sized.on(k, n[0], n[1]));
        }
    }

    @Sentence(of = "Promise 12", says = "Throws `IllegalArgumentException` if by is not 0 to 8, or kind is not 0 or 1")
    static void promise12_throwsIfByIsNot0To8OrKindNot0Or1(Checks c) {
        sizesEnd(c, (k, by, kind) -> k.grow(0, by, kind));
        for (int region : Cases.NO_REGION) {
            Cases.refused(c, "region " + region + " is named ahead of by 9", Cases.INDEX, Cases::busy,
                k -> k.grow(region, 9, 0));
            Cases.refused(c, "region " + region + " is named ahead of kind 2", Cases.INDEX, Cases::busy,
                k -> k.grow(region, 8, 2));
        }
    }

    @Sentence(of = "Promise 12",
        says = "Throws `IllegalStateException` if a field would have an x or y less than -32 or greater than 31")
    static void promise12_throwsIfAFieldWouldBeBeyond(Checks c) {
        for (int[] way : WAYS) {
            for (int n = 0; n < 2; n++) {
                int kind = n;
                for (int m = 1; m <= 8; m++) {
                    int by = m;
                    String of = " along " + way[0] + ", " + way[1] + " by " + by + " kind " + kind;
                    int less = by - 1;
                    Cases.refused(c, "a field beyond" + of, Cases.STATE,
                        () -> Cases.at(limit(way[0]) - less * way[0], limit(way[1]) - less * way[1]),
                        k -> k.grow(0, by, kind));
                    Cases.answers(c, "a field as far as the limit" + of, k -> k.grow(0, by, kind),
                        () -> Cases.at(limit(way[0]) - by * way[0], limit(way[1]) - by * way[1]));
                }
            }
        }
        for (int n = 0; n < 2; n++) {
            int kind = n;
            Cases.refused(c, "every field by 1, kind " + kind, Cases.STATE, Cases::busy, k -> k.grow(1, 1, kind));
            Cases.refused(c, "four at the limits by 1, kind " + kind, Cases.STATE, Cases::busy, k -> k.grow(2, 1, kind));
            Cases.answers(c, "every field by 0, kind " + kind, k -> k.grow(1, 0, kind), Cases::busy);
            Cases.answers(c, "the empty region by 8, kind " + kind, k -> k.grow(3, 8, kind), Cases::busy);
            Cases.refused(c, "by 9 is named first, kind " + kind, Cases.ARGUMENT, Cases::busy, k -> k.grow(1, 9, kind));
        }
        Cases.refused(c, "kind 2 is named first", Cases.ARGUMENT, Cases::busy, k -> k.grow(1, 8, 2));
        Cases.refused(c, "kind -1 is named first", Cases.ARGUMENT, Cases::busy, k -> k.grow(2, 1, -1));
    }

    @Sentence(of = "Promise 13",
        says = "Makes a region narrower: each field goes that is at most so far from one that is not in it, likewise.")
    static void promise13_makesARegionNarrower(Checks c) {
        for (int n = 0; n < 2; n++) {
            int kind = n;
            for (int m = 0; m <= 8; m++) {
                int by = m;
                String of = " by " + by + " kind " + kind;
                ScrimshawKernel k = Cases.busy();
                k.shrink(1, by, kind);
                String ends = (by - 32) + " " + (by - 32) + " " + (31 - by) + " " + (31 - by);
                c.due("every field" + of, (64 - 2 * by) * (64 - 2 * by) + " " + ends,
                    () -> k.area(1) + " " + Cases.bounds(k, 1));
                k.shrink(5, by, kind);
                c.due("one of 48" + of, (48 - 2 * by) * (48 - 2 * by), () -> k.area(5));
                k.shrink(3, by, kind);
                c.due("the empty region" + of, 0, () -> k.area(3));
                k.shrink(2, by, kind);
                c.due("four at the limits" + of, by == 0 ? 4 : 0, () -> k.area(2));
                k.clear(7);
                k.addRectangle(7, -32, 15, 17, 17);
                k.shrink(7, by, kind);
                c.due("one of 17 at the limits" + of, (17 - 2 * by) * (17 - 2 * by), () -> k.area(7));
                k.clear(7);
                k.addRectangle(7, 16, -32, 16, 16);
                k.shrink(7, by, kind);
                c.due("one of 16 at the limits" + of, (16 - 2 * by) * (16 - 2 * by), () -> k.area(7));
            }
        }
        ScrimshawKernel k = Cases.whole();
        k.addRectangle(1, 0, 0, 1, 1);
        k.combine(0, 0, 1, 2);
        k.shrink(0, 8, 0);
        c.due("from one field that is not in it, kind 0", "2015 false true",
            () -> k.area(0) + " " + k.has(0, 8, -8) + " " + k.has(0, 9, 0));
        k.undo();
        k.shrink(0, 8, 1);
        c.due("from one field that is not in it, kind 1", "2159 false true",
            () -> k.area(0) + " " + k.has(0, 8, 0) + " " + k.has(0, 8, 1));
    }

    @Sentence(of = "Promise 13", says = "Returns its area then.")
    static void promise13_returnsItsAreaThen(Checks c) {
        for (int n = 0; n < 2; n++) {
            int kind = n;
            c.due("of the empty region, kind " + kind, 0, () -> Cases.busy().shrink(3, 8, kind));
            c.due("of every field by 8, kind " + kind, 2304, () -> Cases.busy().shrink(1, 8, kind));
            c.due("of every field by 0, kind " + kind, 4096, () -> Cases.busy().shrink(1, 0, kind));
            c.due("of one field, kind " + kind, 0, () -> Cases.busy().shrink(7, 1, kind));
        }
    }

    @Sentence(of = "Promise 13", says = "Throws `IndexOutOfBoundsException` if there is no such region")
    static void promise13_throwsIfThereIsNoSuchRegion(Checks c) {
        Cases.regionsEnd(c, (k, region) -> k.shrink(region, 0, 0));
        Cases.regionsEnd(c, (k, region) -> k.shrink(region, 8, 1));
    }

    @Sentence(of = "Promise 13", says = "Throws `IllegalArgumentException` if by is not 0 to 8, or kind is not 0 or 1")
    static void promise13_throwsIfByIsNot0To8OrKindNot0Or1(Checks c) {
        sizesEnd(c, (k, by, kind) -> k.shrink(0, by, kind));
        for (int region : Cases.NO_REGION) {
            Cases.refused(c, "region " + region + " is named ahead of by 9", Cases.INDEX, Cases::busy,
                k -> k.shrink(region, 9, 0));
            Cases.refused(c, "region " + region + " is named ahead of kind 2", Cases.INDEX, Cases::busy,
                k -> k.shrink(region, 8, 2));
        }
    }

    @Sentence(of = "Promise 14", says = "Fills the HOLES of a region.")
    static void promise14_fillsTheHoles(Checks c) {
        ScrimshawKernel k = Cases.sieve();
        k.fill(0);
        c.due("one by one, to every field", "4096 0", () -> k.area(0) + " " + k.holes(0));
        k.addRectangle(3, -32, -32, 64, 64);
        k.addRectangle(4, -31, -31, 62, 62);
        k.combine(5, 3, 4, 2);
        k.fill(5);
        c.due("the greatest one", "4096 1", () -> k.area(5) + " " + k.strips(5));
        k.fill(3);
        c.due("every field", 4096, () -> k.area(3));
        k.fill(6);
        c.due("the empty region", 0, () -> k.area(6));
        ScrimshawKernel notched = Cases.busy();
        notched.combine(1, 1, 2, 2);
        notched.fill(1);
        c.due("none that is at the limits", 4092, () -> notched.area(1));
        notched.fill(2);
        c.due("none between fields at the limits", 4, () -> notched.area(2));
        ScrimshawKernel open = Cases.drawn("####/##.#/#.##/.###");
        open.fill(0);
        c.due("none from which one can go out by points", 13, () -> open.area(0));
        ScrimshawKernel closed = Cases.drawn("#####/##.##/#.###/#####");
        closed.fill(0);
        c.due("one of fields that have a point in common", "0 0 5 4", () -> Cases.strip(closed, 0, 0));
        ScrimshawKernel spiral = Cases.spiral();
        spiral.fill(0);
        c.due("none that ends at a limit", 2111, () -> spiral.area(0));
        spiral.addRectangle(0, -32, -31, 1, 1);
        spiral.fill(0);
        c.due("one that winds", 4096, () -> spiral.area(0));
    }

    @Sentence(of = "Promise 14", says = "Returns how many there were.")
    static void promise14_returnsHowManyThereWere(Checks c) {
        c.due("of the empty region", 0, () -> Cases.busy().fill(3));
        c.due("of every field", 0, () -> Cases.busy().fill(1));
        c.due("of a ring", 1, () -> Cases.busy().fill(0));
        c.due("of the frame at the limits: holes, not fields", 1, () -> Cases.frame().fill(0));
        c.due("of two fields with a side in common", 1, () -> Cases.drawn("####/#..#/####").fill(0));
        c.due("of two fields with a point in common", 1, () -> Cases.drawn("####/##.#/#.##/####").fill(0));
        c.due("of one field, and two", 2, () -> Cases.drawn("######/#.#..#/######").fill(0));
        ScrimshawKernel k = Cases.sieve();
        c.due("of 31 by 31", 961, () -> k.fill(0));
        c.due("once more", 0, () -> k.fill(0));
        c.due("checkers have none", 0, () -> Cases.checkers().fill(0));
    }

    @Sentence(of = "Promise 14", says = "Throws `IndexOutOfBoundsException` if there is no such region")
    static void promise14_throwsIfThereIsNoSuchRegion(Checks c) {
        Cases.regionsEnd(c, (k, region) -> k.fill(region));
    }

    @Sentence(of = "Promise 15",
        says = "Keeps of a region the PIECE with a field; if that is not in it, the region is empty then.")
    static void promise15_keepsThePieceOrNothing(Checks c) {
        int[][] corners = {{-32, -32}, {31, -32}, {31, 31}, {-32, 31}};
        for (int[] at : corners) {
            ScrimshawKernel k = Cases.busy();
            k.keepPiece(2, at[0], at[1]);
            c.due("one of four at the limits", at[0] + " " + at[1] + " " + at[0] + " " + at[1], () -> Cases.bounds(k, 2));
            k.keepPiece(1, at[0], at[1]);
            c.due("every field", 4096, () -> k.area(1));
        }
        int[][] none = {{-33, 0}, {32, 0}, {0, -33}, {0, 32}, {MIN, 0}, {MAX, 0}, {0, MIN}, {0, MAX}, {MIN, MIN}, {MAX, MAX},
            {-33, -33}, {32, 32}, {64, 0}, {-64, 0}, {0, 64}, {0, -64}, {MIN + 32, MIN + 32}};
        for (int[] at : none) {
            ScrimshawKernel k = Cases.busy();
            k.keepPiece(1, at[0], at[1]);
            c.due("of every field none at " + at[0] + ", " + at[1], 0, () -> k.area(1));
            k.undo();
            c.due("which can be undone", 4096, () -> k.area(1));
        }
        ScrimshawKernel k = Cases.busy();
        k.keepPiece(0, 0, 0);
        c.due("a field in its hole is not in it", 0, () -> k.area(0));
        k.undo();
        k.keepPiece(0, 2, 2);
        c.due("the field at its corner is a piece", 1, () -> k.area(0));
        k.undo();
        k.keepPiece(0, 1, 1);
        c.due("and so is the rest", 8, () -> k.area(0));
        k.keepPiece(3, 0, 0);
        c.due("of the empty region", 0, () -> k.area(3));
    }

    @Sentence(of = "Promise 15", says = "Returns its area then.")
    static void promise15_returnsItsAreaThen(Checks c) {
        c.due("of the empty region", 0, () -> Cases.busy().keepPiece(3, 0, 0));
        c.due("of every field", 4096, () -> Cases.busy().keepPiece(1, 31, -32));
        c.due("beyond the limits", 0, () -> Cases.busy().keepPiece(1, 32, 0));
        c.due("of checkers", 1, () -> Cases.checkers().keepPiece(0, 31, -32));
    }

    @Sentence(of = "Promise 15", says = "Throws `IndexOutOfBoundsException` if there is no such region")
    static void promise15_throwsIfThereIsNoSuchRegion(Checks c) {
        Cases.regionsEnd(c, (k, region) -> k.keepPiece(region, 0, 0));
        Cases.regionsEnd(c, (k, region) -> k.keepPiece(region, MAX, MIN));
    }

    @Sentence(of = "Promise 16", says = "Empties a region.")
    static void promise16_emptiesARegion(Checks c) {
        for (int n = 0; n < 8; n++) {
            int region = n;
            ScrimshawKernel k = Cases.busy();
            k.clear(region);
            c.due("region " + region, "0 0 0 0 0", () -> k.area(region) + " " + Cases.bounds(k, region));
        }
        ScrimshawKernel k = Cases.busy();
        k.clear(1);
        c.due("and no other", "4 2304", () -> k.area(2) + " " + k.area(5));
    }

    @Sentence(of = "Promise 16", says = "Returns the area that it had.")
    static void promise16_returnsTheAreaThatItHad(Checks c) {
        ScrimshawKernel k = Cases.busy();
        c.due("the empty region", 0, () -> k.clear(3));
        c.due("every field", 4096, () -> k.clear(1));
        c.due("behind that", 0, () -> k.clear(1));
        c.due("four at the limits", 4, () -> k.clear(2));
    }

    @Sentence(of = "Promise 16", says = "Throws `IndexOutOfBoundsException` if there is no such region")
    static void promise16_throwsIfThereIsNoSuchRegion(Checks c) {
        Cases.regionsEnd(c, (k, region) -> k.clear(region));
    }

    @Sentence(of = "Promise 17", says = "Takes the latest change of a region back (close() and those of this section, also "
        + "if they changed nothing)")
    static void promise17_takesTheLatestChangeBackAlsoOfNothing(Checks c) {
        Cases.Act[] ofNothing = {k -> k.close(3, 0), k -> k.close(3, 1), k -> k.addRectangle(1, 0, 0, 1, 1),
            k -> k.combine(1, 1, 1, 0), k -> k.combine(3, 3, 3, 1), k -> k.move(1, 0, 0), k -> k.move(3, 64, 64),
            k -> k.turn(0, 0), k -> k.turn(1, 3), k -> k.mirror(1), k -> k.mirror(3), k -> k.grow(1, 0, 0),
            k -> k.grow(3, 8, 1), k -> k.shrink(1, 0, 0), k -> k.shrink(3, 8, 1), k -> k.fill(1), k -> k.fill(3),
            k -> k.keepPiece(1, 0, 0), k -> k.keepPiece(3, 0, 0), k -> k.clear(3)};
        int[] regions = {3, 3, 1, 1, 3, 1, 3, 0, 1, 1, 3, 1, 3, 1, 3, 1, 3, 1, 3, 3};
        for (int n = 0; n < ofNothing.length; n++) {
            ScrimshawKernel k = Cases.busy();
            k.moveTo(0, 0);
            long was = k.digest();
            Cases.Act act = ofNothing[n];
            c.due("change " + n + " changes nothing", was, () -> {
                act.on(k);
                return k.digest();
            });
            c.due("change " + n + " is taken back", regions[n], () -> k.undo());
            // The one ahead, of region 6, is the latest of busy().
            c.due("change " + n + " and that ahead", 6, () -> k.undo());
        }
        Cases.Act[] ofAll = {k -> k.close(1, 0), k -> k.addRectangle(3, -32, -32, 64, 64), k -> k.combine(1, 1, 1, 3),
            k -> k.move(5, 8, 8), k -> k.turn(6, 1), k -> k.mirror(6), k -> k.grow(5, 8, 0), k -> k.shrink(1, 8, 0),
            k -> k.fill(0), k -> k.keepPiece(2, 31, 31), k -> k.clear(1)};
        int[] changed = {1, 3, 1, 5, 6, 6, 5, 1, 0, 2, 1};
        for (int n = 0; n < ofAll.length; n++) {
            ScrimshawKernel k = Cases.busy();
            k.moveTo(0, 0);
            k.undo();
            long was = k.digest();
            ofAll[n].on(k);
            c.due("change " + n + " of fields at the limits changes something", false, () -> k.digest() == was);
            c.due("change " + n + " of fields at the limits is taken back", changed[n], () -> k.undo());
            c.due("as it was ahead of change " + n, was, () -> k.digest());
        }
    }

    private static ScrimshawKernel changed(int changes) {
        ScrimshawKernel k = new ScrimshawKernel();
        for (int n = 0; n < changes; n++) {
            k.addRectangle(n % 8, n - 32, 0, 1, 1);
        }
        return k;
    }

    @Sentence(of = "Promise 17", says = "at most the 12 latest ones are kept for that")
    static void promise17_keepsThe12LatestOnes(Checks c) {
        int[] counts = {0, 1, 11, 12, 13, 14, 23, 24, 25, 36, 60};
        for (int count : counts) {
            ScrimshawKernel k = changed(count);
            int kept = Math.min(count, 12);
            for (int n = count - 1; n >= count - kept; n--) {
                int region = n % 8;
                int x = n - 32;
                c.due(count + " changes: taken back " + n, region, () -> k.undo());
                c.due(count + " changes: gone " + n, false, () -> k.has(region, x, 0));
            }
            c.due(count + " changes: no more than 12", -1, () -> k.undo());
            c.due(count + " changes: and none behind that", -1, () -> k.undo());
            if (count > 12) {
                c.due(count + " changes: the 13th from the end stays", true,
                    () -> k.has((count - 13) % 8, count - 13 - 32, 0));
            }
            k.addRectangle(7, 31, 31, 1, 1);
            c.due(count + " changes: one more is kept again", "7 -1", () -> k.undo() + " " + k.undo());
        }
    }

    @Sentence(of = "Promise 17", says = "the pen stays where it is")
    static void promise17_thePenStays(Checks c) {
        ScrimshawKernel k = Cases.withPoints(60);
        k.undo();
        c.due("a path of 60 points", "13 24 60", () -> Cases.pen(k));
        c.due("is all there", 300, () -> k.close(3, 0));
        k.undo();
        c.due("behind close it is at the first point", "0 0 1", () -> Cases.pen(k));
        c.due("and the path is not back", 0, () -> k.close(3, 0));
    }

    @Sentence(of = "Promise 17", says = "This is no change itself.")
    static void promise17_isNoChangeItself(Checks c) {
        ScrimshawKernel k = changed(2);
        c.due("twice, then none", "1 0 -1 -1", () -> k.undo() + " " + k.undo() + " " + k.undo() + " " + k.undo());
        c.due("what was undone does not come back", "0 0", () -> k.area(0) + " " + k.area(1));
        ScrimshawKernel full = changed(12);
        full.undo();
        full.addRectangle(7, 31, 31, 1, 1);
        c.due("one undone, and one more: 12 again", "7 2 1 0 7 6 5 4 3 2 1 0 -1", () -> {
            StringBuilder undone = new StringBuilder();
            for (int n = 0; n < 13; n++) {
                undone.append(n > 0 ? " " : "").append(full.undo());
            }
            return undone;
        });
    }

    @Sentence(of = "Promise 17", says = "Returns the region that it was; -1 if there is none to take back.")
    static void promise17_returnsTheRegionOrMinusOne(Checks c) {
        c.due("a new object", -1, () -> new ScrimshawKernel().undo());
        for (int n = 0; n < 8; n++) {
            int region = n;
            ScrimshawKernel k = new ScrimshawKernel();
            k.clear(region);
            c.due("region " + region, region, () -> k.undo());
            c.due("then none", -1, () -> k.undo());
        }
        ScrimshawKernel refused = new ScrimshawKernel();
        Checks.answer(() -> refused.addRectangle(0, 32, 0, 1, 1));
        Checks.answer(() -> refused.close(0, 2));
        c.due("what was refused is none", -1, () -> refused.undo());
        ScrimshawKernel k = Cases.busy();
        k.combine(5, 1, 2, 0);
        c.due("combine is one of the region that it makes", 5, () -> k.undo());
    }
}
