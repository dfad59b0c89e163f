import java.io.IOException;

/** Promises 18 to 36: a test for each sentence that names a boundary case. */
public final class BoundaryAskingTest {
    private static final int MIN = Cases.MIN;
    private static final int MAX = Cases.MAX;

    private interface Hatching {
        Object on(ScrimshawKernel kernel, int region, int kind, int every, int first);
    }

    public static void main(String[] args) throws IOException {
        Sentences.run(BoundaryAskingTest.class);
    }

    /** The empty region, one field, every field, four at two limits, the frame at all limits, checkers, and the sieve. */
    private static void counts(Checks c, int[] dues, Cases.Act ask) {
        Cases.Made[] made = {ScrimshawKernel::new, () -> Cases.at(31, -32), Cases::whole, BoundaryAskingTest::corners,
            Cases::frame, Cases::checkers, Cases::sieve};
        String[] names = {"the empty region", "one field at two limits", "every field", "four at two limits",
            "the frame at the limits", "checkers", "the sieve"};
        for (int n = 0; n < made.length; n++) {
            ScrimshawKernel k = made[n].make();
            c.due(names[n], dues[n], () -> ask.on(k));
        }
    }

    private static ScrimshawKernel corners() {
        ScrimshawKernel k = new ScrimshawKernel();
        Cases.addCorners(k, 0);
        return k;
    }

    @Sentence(of = "Promise 18", says = "Returns how many fields it has.")
    static void promise18_returnsHowManyFields(Checks c) {
        counts(c, new int[] {0, 1, 4096, 4, 252, 2048, 3135}, k -> k.area(0));
    }

    @Sentence(of = "Promise 18", says = "Throws `IndexOutOfBoundsException` if there is no such region")
    static void promise18_throwsIfThereIsNoSuchRegion(Checks c) {
        Cases.regionsEnd(c, (k, region) -> k.area(region));
    }

    @Sentence(of = "Promise 19", says = "Returns how many EDGES it has.")
    static void promise19_returnsHowManyEdges(Checks c) {
        counts(c, new int[] {0, 4, 256, 16, 504, 8192, 4100}, k -> k.edges(0));
    }

    @Sentence(of = "Promise 19", says = "Throws `IndexOutOfBoundsException` if there is no such region")
    static void promise19_throwsIfThereIsNoSuchRegion(Checks c) {
        Cases.regionsEnd(c, (k, region) -> k.edges(region));
    }

    @Sentence(of = "Promise 20", says = "Returns how many PIECES it has.")
    static void promise20_returnsHowManyPieces(Checks c) {
        counts(c, new int[] {0, 1, 1, 4, 1, 2048, 1}, k -> k.pieces(0));
    }

    @Sentence(of = "Promise 20", says = "Throws `IndexOutOfBoundsException` if there is no such region")
    static void promise20_throwsIfThereIsNoSuchRegion(Checks c) {
        Cases.regionsEnd(c, (k, region) -> k.pieces(region));
    }

    @Sentence(of = "Promise 21", says = "Returns how many HOLES it has.")
    static void promise21_returnsHowManyHoles(Checks c) {
        counts(c, new int[] {0, 0, 0, 0, 1, 0, 961}, k -> k.holes(0));
    }

    @Sentence(of = "Promise 21", says = "Throws `IndexOutOfBoundsException` if there is no such region")
    static void promise21_throwsIfThereIsNoSuchRegion(Checks c) {
        Cases.regionsEnd(c, (k, region) -> k.holes(region));
    }

    @Sentence(of = "Promise 22", says = "Returns whether the field is in it.")
    static void promise22_returnsWhetherTheFieldIsInIt(Checks c) {
        int[][] there = {{-32, -32}, {31, -32}, {31, 31}, {-32, 31}, {0, 0}, {-1, -1}, {-32, 0}, {0, 31}};
        int[][] beyond = {{-33, 0}, {32, 0}, {0, -33}, {0, 32}, {-33, -33}, {32, 32}, {-33, 31}, {32, -32}, {64, 0},
            {0, -64}, {96, 0}, {0, 96}, {MIN, 0}, {MAX, 0}, {0, MIN}, {0, MAX}, {MIN, MIN}, {MAX, MAX}, {MIN, MAX},
            {MIN + 32, 0}, {0, MIN + 31}, {MAX - 31, 0}, {0, MAX - 32}};
        ScrimshawKernel k = Cases.whole();
        for (int[] at : there) {
            c.due("of every field " + at[0] + ", " + at[1], true, () -> k.has(0, at[0], at[1]));
            c.due("of the empty region " + at[0] + ", " + at[1], false, () -> k.has(7, at[0], at[1]));
        }
        for (int[] at : beyond) {
            c.due("of every field " + at[0] + ", " + at[1], false, () -> k.has(0, at[0], at[1]));
            c.due("of the empty region " + at[0] + ", " + at[1], false, () -> k.has(7, at[0], at[1]));
        }
        ScrimshawKernel one = Cases.at(31, -32);
        c.due("of one field, at the other limit of the next row", "true false false",
            () -> one.has(0, 31, -32) + " " + one.has(0, -32, -31) + " " + one.has(0, -32, -32));
    }

    @Sentence(of = "Promise 22", says = "Throws `IndexOutOfBoundsException` if there is no such region")
    static void promise22_throwsIfThereIsNoSuchRegion(Checks c) {
        Cases.regionsEnd(c, (k, region) -> k.has(region, 0, 0));
        Cases.regionsEnd(c, (k, region) -> k.has(region, MAX, MIN));
    }

    @Sentence(of = "Promise 23", says = "0 the least x of its fields, 1 the least y, 2 the greatest x, 3 the greatest y")
    static void promise23_sidesFrom0To3(Checks c) {
        ScrimshawKernel k = Cases.drawn("##./.##");
        k.move(0, -5, 7);
        c.due("the four", "-5 7 -3 8", () -> Cases.bounds(k, 0));
        c.due("every field", "-32 -32 31 31", () -> Cases.bounds(Cases.whole(), 0));
        int[][] corners = {{-32, -32}, {31, -32}, {31, 31}, {-32, 31}};
        for (int[] at : corners) {
            c.due("one field at two limits", at[0] + " " + at[1] + " " + at[0] + " " + at[1],
                () -> Cases.bounds(Cases.at(at[0], at[1]), 0));
        }
    }

    @Sentence(of = "Promise 23", says = "Returns that; 0 of an empty region.")
    static void promise23_returnsZeroOfAnEmptyRegion(Checks c) {
        c.due("a region that was never filled", "0 0 0 0", () -> Cases.bounds(new ScrimshawKernel(), 7));
        ScrimshawKernel k = Cases.at(31, 31);
        k.clear(0);
        c.due("a region that was emptied", "0 0 0 0", () -> Cases.bounds(k, 0));
        c.due("the field at 0, which is the same", "0 0 0 0", () -> Cases.bounds(Cases.at(0, 0), 0));
    }

    @Sentence(of = "Promise 23", says = "Throws `IndexOutOfBoundsException` if there is no such region")
    static void promise23_throwsIfThereIsNoSuchRegion(Checks c) {
        Cases.regionsEnd(c, (k, region) -> k.bound(region, 0));
        Cases.regionsEnd(c, (k, region) -> k.bound(region, 3));
    }

    @Sentence(of = "Promise 23", says = "Throws `IllegalArgumentException` if side is not 0 to 3")
    static void promise23_throwsIfSideIsNot0To3(Checks c) {
        Cases.answers(c, "side 0", k -> k.bound(2, 0), Cases::busy);
        Cases.answers(c, "side 3", k -> k.bound(2, 3), Cases::busy);
        int[] none = {-1, 4, MIN, MAX};
        for (int side : none) {
            Cases.refused(c, "side " + side, Cases.ARGUMENT, Cases::busy, k -> k.bound(2, side));
            Cases.refused(c, "of the empty region " + side, Cases.ARGUMENT, Cases::busy, k -> k.bound(3, side));
            Cases.refused(c, "region 8 is named first, " + side, Cases.INDEX, Cases::busy, k -> k.bound(8, side));
            Cases.refused(c, "region -1 is named first, " + side, Cases.INDEX, Cases::busy, k -> k.bound(-1, side));
        }
    }

    @Sentence(of = "Promise 24", says = "Returns how many CONTOURS it has.")
    static void promise24_returnsHowManyContours(Checks c) {
        counts(c, new int[] {0, 1, 1, 4, 2, 2048, 962}, k -> k.contours(0));
    }

    @Sentence(of = "Promise 24", says = "Throws `IndexOutOfBoundsException` if there is no such region")
    static void promise24_throwsIfThereIsNoSuchRegion(Checks c) {
        Cases.regionsEnd(c, (k, region) -> k.contours(region));
    }

    /** Region 0 of busy() has three contours: the first and the last are there, and those beyond are not. */
    private static void contoursEnd(Checks c, Cases.RegionAct ask) {
        Cases.answers(c, "contour 0 of 3", k -> ask.on(k, 0), Cases::busy);
        Cases.answers(c, "contour 2 of 3", k -> ask.on(k, 2), Cases::busy);
        int[] none = {-1, 3, MIN, MAX};
        for (int contour : none) {
            Cases.refused(c, "contour " + contour + " of 3", Cases.INDEX, Cases::busy, k -> ask.on(k, contour));
        }
        int[] noneAtAll = {-1, 0, 1, MIN, MAX};
        for (int contour : noneAtAll) {
            Cases.refused(c, "contour " + contour + " of the empty region", Cases.INDEX, ScrimshawKernel::new,
                k -> ask.on(k, contour));
        }
        ScrimshawKernel walked = Cases.busy();
        Object last = ask.on(walked, 2);
        for (int contour : none) {
            c.due("contour " + contour + " of 3, behind contour 2", "throws.IndexOutOfBoundsException",
                () -> ask.on(walked, contour));
            c.due("and contour 2 once more", last, () -> ask.on(walked, 2));
        }
        Cases.answers(c, "contour 2047 of 2048", k -> ask.on(k, 2047), Cases::checkers);
        Cases.refused(c, "contour 2048 of 2048", Cases.INDEX, Cases::checkers, k -> ask.on(k, 2048));
    }

    @Sentence(of = "Promise 25", says = "Returns how many CORNERS it has.")
    static void promise25_returnsHowManyCorners(Checks c) {
        c.due("one field", 4, () -> Cases.at(-32, 31).corners(0, 0));
        c.due("every field", 4, () -> Cases.whole().corners(0, 0));
        c.due("the frame's hole", 4, () -> Cases.frame().corners(0, 1));
        // A tooth has four, but the left one's side goes on straight; the right one has the row's end at its right.
        c.due("the comb", 130, () -> Cases.comb().corners(0, 0));
        c.due("the last of checkers", 4, () -> Cases.checkers().corners(0, 2047));
        c.due("the last of the sieve", 4, () -> Cases.sieve().corners(0, 961));
    }

    @Sentence(of = "Promise 25", says = "Throws `IndexOutOfBoundsException` if there is no such region, or contour")
    static void promise25_throwsIfThereIsNoSuchRegionOrContour(Checks c) {
        Cases.regionsEnd(c, (k, region) -> k.corners(region, 0));
        contoursEnd(c, (k, contour) -> k.corners(0, contour));
    }

    /** A contour has the corners 0 to 3, and no other. */
    private static void cornersEnd(Checks c, Cases.RegionAct ask) {
        Cases.answers(c, "corner 0 of 4", k -> ask.on(k, 0), Cases::busy);
        Cases.answers(c, "corner 3 of 4", k -> ask.on(k, 3), Cases::busy);
        int[] none = {-1, 4, MIN, MAX};
        for (int corner : none) {
            Cases.refused(c, "corner " + corner + " of 4", Cases.INDEX, Cases::busy, k -> ask.on(k, corner));
            ScrimshawKernel walked = Cases.busy();
            Object last = ask.on(walked, 3);
            c.due("corner " + corner + " of 4, behind corner 3", "throws.IndexOutOfBoundsException",
                () -> ask.on(walked, corner));
            c.due("and corner 3 once more", last, () -> ask.on(walked, 3));
        }
    }

    @Sentence(of = "Promise 26", says = "Returns its x.")
    static void promise26_returnsItsX(Checks c) {
        int[] xs = {-32, 32, 32, -32};
        for (int n = 0; n < 4; n++) {
            int corner = n;
            c.due("every field, corner " + corner, xs[corner], () -> Cases.whole().cornerX(0, 0, corner));
        }
        c.due("the comb's last", -32, () -> Cases.comb().cornerX(0, 0, 129));
        c.due("the comb's first", -32, () -> Cases.comb().cornerX(0, 0, 0));
        c.due("the last corner of the last of checkers", 30, () -> Cases.checkers().cornerX(0, 2047, 3));
        c.due("of the field at 31", 32, () -> Cases.at(31, -32).cornerX(0, 0, 1));
    }

    @Sentence(of = "Promise 26", says = "Throws `IndexOutOfBoundsException` if there is no such region, contour or corner")
    static void promise26_throwsIfThereIsNoSuchRegionContourOrCorner(Checks c) {
        Cases.regionsEnd(c, (k, region) -> k.cornerX(region, 0, 3));
        contoursEnd(c, (k, contour) -> k.cornerX(0, contour, 0));
        contoursEnd(c, (k, contour) -> k.cornerX(0, contour, 3));
        cornersEnd(c, (k, corner) -> k.cornerX(0, 0, corner));
        cornersEnd(c, (k, corner) -> k.cornerX(0, 1, corner));
        cornersEnd(c, (k, corner) -> k.cornerX(0, 2, corner));
        c.due("the comb has no corner 130", "throws.IndexOutOfBoundsException", () -> Cases.comb().cornerX(0, 0, 130));
    }

    @Sentence(of = "Promise 27", says = "Returns its y.")
    static void promise27_returnsItsY(Checks c) {
        int[] ys = {-32, -32, 32, 32};
        for (int n = 0; n < 4; n++) {
            int corner = n;
            c.due("every field, corner " + corner, ys[corner], () -> Cases.whole().cornerY(0, 0, corner));
        }
        c.due("the comb's last", 32, () -> Cases.comb().cornerY(0, 0, 129));
        c.due("the comb's first", -32, () -> Cases.comb().cornerY(0, 0, 0));
        c.due("the last corner of the last of checkers", 32, () -> Cases.checkers().cornerY(0, 2047, 3));
        c.due("of the field at 31", 32, () -> Cases.at(-32, 31).cornerY(0, 0, 2));
    }

    @Sentence(of = "Promise 27", says = "Throws `IndexOutOfBoundsException` if there is no such region, contour or corner")
    static void promise27_throwsIfThereIsNoSuchRegionContourOrCorner(Checks c) {
        Cases.regionsEnd(c, (k, region) -> k.cornerY(region, 0, 3));
        contoursEnd(c, (k, contour) -> k.cornerY(0, contour, 0));
        contoursEnd(c, (k, contour) -> k.cornerY(0, contour, 3));
        cornersEnd(c, (k, corner) -> k.cornerY(0, 0, corner));
        cornersEnd(c, (k, corner) -> k.cornerY(0, 1, corner));
        cornersEnd(c, (k, corner) -> k.cornerY(0, 2, corner));
        c.due("the comb has no corner 130", "throws.IndexOutOfBoundsException", () -> Cases.comb().cornerY(0, 0, 130));
    }

    @Sentence(of = "Promise 28", says = "Returns the sum of the x of its EDGES that go upwards, less the sum of the x of "
        + "those that go downwards: the area that it goes around, less than 0 around a HOLE; fields in the region or not.")
    static void promise28_returnsTheAreaThatItGoesAround(Checks c) {
        int[][] corners = {{-32, -32}, {31, -32}, {31, 31}, {-32, 31}, {0, 0}, {-1, -1}};
        for (int[] at : corners) {
            c.due("one field at " + at[0] + ", " + at[1], 1, () -> Cases.at(at[0], at[1]).areaOf(0, 0));
        }
        c.due("every field", 4096, () -> Cases.whole().areaOf(0, 0));
        c.due("the frame with its hole", 4096, () -> Cases.frame().areaOf(0, 0));
        c.due("its hole", -3844, () -> Cases.frame().areaOf(0, 1));
        c.due("the first hole of the sieve", -1, () -> Cases.sieve().areaOf(0, 1));
        c.due("the last hole of the sieve", -1, () -> Cases.sieve().areaOf(0, 961));
        c.due("the comb", 64 + 32 * 63, () -> Cases.comb().areaOf(0, 0));
        c.due("a hole of two fields with a point in common", -2,
            () -> Cases.drawn("#####/##.##/#.###/#####").areaOf(0, 1));
    }

    @Sentence(of = "Promise 28", says = "Throws `IndexOutOfBoundsException` if there is no such region, or contour")
    static void promise28_throwsIfThereIsNoSuchRegionOrContour(Checks c) {
        Cases.regionsEnd(c, (k, region) -> k.areaOf(region, 0));
        contoursEnd(c, (k, contour) -> k.areaOf(0, contour));
    }

    @Sentence(of = "Promise 29", says = "Returns how many STRIPS it has.")
    static void promise29_returnsHowManyStrips(Checks c) {
        // The sieve: 33 whole rows, of which the upper two are one strip, and 31 rows of 32 fields apart.
        counts(c, new int[] {0, 1, 1, 4, 4, 2048, 32 + 31 * 32}, k -> k.strips(0));
    }

    @Sentence(of = "Promise 29", says = "Throws `IndexOutOfBoundsException` if there is no such region")
    static void promise29_throwsIfThereIsNoSuchRegion(Checks c) {
        Cases.regionsEnd(c, (k, region) -> k.strips(region));
    }

    @Sentence(of = "Promise 30", says = "0 the x of its left lower point, 1 the y, 2 its width, 3 its height")
    static void promise30_whatFrom0To3(Checks c) {
        c.due("every field", "-32 -32 64 64", () -> Cases.strip(Cases.whole(), 0, 0));
        c.due("one field", "31 31 1 1", () -> Cases.strip(Cases.at(31, 31), 0, 0));
        String[] frame = {"-32 -32 64 1", "-32 -31 1 62", "31 -31 1 62", "-32 31 64 1"};
        for (int n = 0; n < 4; n++) {
            int strip = n;
            c.due("the frame's " + strip, frame[strip], () -> Cases.strip(Cases.frame(), 0, strip));
        }
    }

    @Sentence(of = "Promise 30", says = "Returns that.")
    static void promise30_returnsThat(Checks c) {
        c.due("the last of checkers", "30 31 1 1", () -> Cases.strip(Cases.checkers(), 0, 2047));
        c.due("the last of the sieve", "-32 30 64 2", () -> Cases.strip(Cases.sieve(), 0, 1023));
        c.due("the one ahead of it", "30 29 2 1", () -> Cases.strip(Cases.sieve(), 0, 1022));
    }

    @Sentence(of = "Promise 30", says = "Throws `IndexOutOfBoundsException` if there is no such region, or strip")
    static void promise30_throwsIfThereIsNoSuchRegionOrStrip(Checks c) {
        Cases.regionsEnd(c, (k, region) -> k.strip(region, 0, 0));
        // Region 2 of busy() has four strips.
        Cases.answers(c, "strip 0 of 4", k -> k.strip(2, 0, 3), Cases::busy);
        Cases.answers(c, "strip 3 of 4", k -> k.strip(2, 3, 3), Cases::busy);
        int[] none = {-1, 4, MIN, MAX};
        for (int strip : none) {
            Cases.refused(c, "strip " + strip + " of 4", Cases.INDEX, Cases::busy, k -> k.strip(2, strip, 0));
            ScrimshawKernel asked = Cases.busy();
            c.due("strip 3 of 4", "31 31 1 1", () -> Cases.strip(asked, 2, 3));
            c.due("strip " + strip + " of 4, behind strip 3", "throws.IndexOutOfBoundsException",
                () -> asked.strip(2, strip, 0));
        }
        int[] noneAtAll = {-1, 0, 1, MIN, MAX};
        for (int strip : noneAtAll) {
            Cases.refused(c, "strip " + strip + " of the empty region", Cases.INDEX, Cases::busy, k -> k.strip(3, strip, 0));
        }
        Cases.answers(c, "strip 2047 of 2048", k -> k.strip(0, 2047, 0), Cases::checkers);
        Cases.refused(c, "strip 2048 of 2048", Cases.INDEX, Cases::checkers, k -> k.strip(0, 2048, 0));
    }

    @Sentence(of = "Promise 30", says = "Throws `IllegalArgumentException` if what is not 0 to 3")
    static void promise30_throwsIfWhatIsNot0To3(Checks c) {
        Cases.answers(c, "what 0", k -> k.strip(2, 3, 0), Cases::busy);
        Cases.answers(c, "what 3", k -> k.strip(2, 3, 3), Cases::busy);
        int[] none = {-1, 4, MIN, MAX};
        for (int what : none) {
            Cases.refused(c, "what " + what, Cases.ARGUMENT, Cases::busy, k -> k.strip(2, 3, what));
            Cases.refused(c, "no region is named first, what " + what, Cases.INDEX, Cases::busy,
                k -> k.strip(8, 0, what));
            Cases.refused(c, "no strip is named first, what " + what, Cases.INDEX, Cases::busy, k -> k.strip(2, 4, what));
            Cases.refused(c, "strip -1 is named first, what " + what, Cases.INDEX, Cases::busy,
                k -> k.strip(2, -1, what));
            Cases.refused(c, "the empty region has none, what " + what, Cases.INDEX, Cases::busy,
                k -> k.strip(3, 0, what));
        }
    }

    /** How many fields have this number, of all 64 by 64: the lines 0 and 1 are as long as that, 2 and 3 slanted. */
    private static int lengthOfLine(int kind, int number) {
        int least = kind < 2 ? -32 : kind == 2 ? -64 : -63;
        int greatest = kind < 2 ? 31 : kind == 2 ? 62 : 63;
        if (number < least || number > greatest) {
            return 0;
        }
        return kind < 2 ? 64 : kind == 2 ? 64 - Math.abs(number + 1) : 64 - Math.abs(number);
    }

    /** Each line of every field is one row; those that begin from first on, up and down, are counted one by one. */
    private static void hatchingOfEveryField(Checks c, boolean isRows, Hatching ask) {
        int[] distances = {1, 2, 7, 19, 20};
        int[] firsts = {-100, -99, -64, -1, 0, 1, 62, 63, 64, 99, 100};
        for (int k = 0; k < 4; k++) {
            for (int every : distances) {
                for (int first : firsts) {
                    int kind = k;
                    int due = 0;
                    for (int up = first; up <= 200; up += every) {
                        int length = lengthOfLine(kind, up);
                        due += isRows ? Math.min(length, 1) : length;
                    }
                    for (int down = first - every; down >= -200; down -= every) {
                        int length = lengthOfLine(kind, down);
                        due += isRows ? Math.min(length, 1) : length;
                    }
                    c.due("every field, kind " + kind + " every " + every + " first " + first, due,
                        () -> ask.on(Cases.whole(), 0, kind, every, first));
                    c.due("the empty region, kind " + kind + " every " + every + " first " + first, 0,
                        () -> ask.on(Cases.whole(), 7, kind, every, first));
                }
            }
        }
    }

    private static void hatchingsEnd(Checks c, Hatching ask) {
        int[][] most = {{0, 1, -100}, {3, 1, 100}, {0, 20, 100}, {3, 20, -100}, {1, 1, 0}, {2, 20, 0}};
        for (int[] m : most) {
            Cases.answers(c, m[0] + ", " + m[1] + ", " + m[2], k -> ask.on(k, 1, m[0], m[1], m[2]), Cases::busy);
        }
        int[][] none = {{-1, 1, 0}, {4, 1, 0}, {MIN, 1, 0}, {MAX, 1, 0}, {0, 0, 0}, {0, 21, 0}, {3, -1, 0}, {0, MIN, 0},
            {1, MAX, 0}, {0, 1, -101}, {0, 1, 101}, {2, 20, MIN}, {3, 20, MAX}, {4, 0, 101}, {-1, 0, -101}, {2, 0, 101}};
        for (int[] n : none) {
            String of = n[0] + ", " + n[1] + ", " + n[2];
            Cases.refused(c, of, Cases.ARGUMENT, Cases::busy, k -> ask.on(k, 1, n[0], n[1], n[2]));
            Cases.refused(c, "of the empty region " + of, Cases.ARGUMENT, Cases::busy,
                k -> ask.on(k, 3, n[0], n[1], n[2]));
            Cases.refused(c, "region 8 is named first, " + of, Cases.INDEX, Cases::busy,
                k -> ask.on(k, 8, n[0], n[1], n[2]));
            Cases.refused(c, "region -1 is named first, " + of, Cases.INDEX, Cases::busy,
                k -> ask.on(k, -1, n[0], n[1], n[2]));
        }
    }

    @Sentence(of = "Promise 31", says = "Hatching: of all lines that go through fields with the same y (kind 0), the same x "
        + "(1), the same x + y (2), or the same x - y (3), those of which this number is one of first, first + every, "
        + "first + 2 * every, and so on, also downwards.")
    static void promise31_linesFromFirstOnAlsoDownwards(Checks c) {
        // A line's number at the limits, by the kinds, of the field at (31, -32) and of that at (-32, -32).
        int[] numbers = {-32, 31, -1, 63};
        int[] others = {-32, -32, -64, 0};
        for (int n = 0; n < 4; n++) {
            int kind = n;
            for (int f = -100; f <= 100; f++) {
                int first = f;
                int due = (first - numbers[kind]) % 20 == 0 ? 1 : 0;
                int other = (first - others[kind]) % 20 == 0 ? 1 : 0;
                c.due("the field 31, -32, kind " + kind + " first " + first, due,
                    () -> Cases.at(31, -32).hatch(0, kind, 20, first));
                c.due("the field -32, -32, kind " + kind + " first " + first, other,
                    () -> Cases.at(-32, -32).hatch(0, kind, 20, first));
            }
        }
        hatchingOfEveryField(c, true, (k, region, kind, every, first) -> k.hatch(region, kind, every, first));
    }

    @Sentence(of = "Promise 31", says = "Returns into how many rows of fields of the region, which follow each other on a "
        + "line, as long as can be, all these lines are parted.")
    static void promise31_returnsIntoHowManyRows(Checks c) {
        int[] wholes = {64, 64, 127, 127};
        // The fields of checkers are those of which x + y is odd: whole slanted lines.
        int[] checkers = {2048, 2048, 63, 64};
        // Four at the limits: two slanted lines have two of them each, far apart.
        for (int n = 0; n < 4; n++) {
            int kind = n;
            c.due("every field, kind " + kind, wholes[kind], () -> Cases.whole().hatch(0, kind, 1, 100));
            c.due("the empty region, kind " + kind, 0, () -> new ScrimshawKernel().hatch(7, kind, 1, 0));
            c.due("checkers, kind " + kind, checkers[kind], () -> Cases.checkers().hatch(0, kind, 1, -100));
            c.due("four at the limits, kind " + kind, 4, () -> corners().hatch(0, kind, 1, 0));
        }
        c.due("the frame, kind 0", 2 + 2 * 62, () -> Cases.frame().hatch(0, 0, 1, 0));
        c.due("the frame, kind 1", 2 + 2 * 62, () -> Cases.frame().hatch(0, 1, 1, 0));
        // Of the slanted ones, the two shortest at each end are one row, all others two.
        c.due("the frame, kind 2", 4 + 2 * 123, () -> Cases.frame().hatch(0, 2, 1, 0));
        c.due("the frame, kind 3", 4 + 2 * 123, () -> Cases.frame().hatch(0, 3, 1, 0));
    }

    @Sentence(of = "Promise 31", says = "Throws `IndexOutOfBoundsException` if there is no such region")
    static void promise31_throwsIfThereIsNoSuchRegion(Checks c) {
        Cases.regionsEnd(c, (k, region) -> k.hatch(region, 0, 1, 0));
        Cases.regionsEnd(c, (k, region) -> k.hatch(region, 3, 20, 100));
    }

    @Sentence(of = "Promise 31",
        says = "Throws `IllegalArgumentException` if kind is not 0 to 3, every is not 1 to 20, or first is not -100 to 100")
    static void promise31_throwsIfKindEveryOrFirstIsBeyond(Checks c) {
        hatchingsEnd(c, (k, region, kind, every, first) -> k.hatch(region, kind, every, first));
    }

    @Sentence(of = "Promise 32", says = "Returns how many fields of the region are on its lines.")
    static void promise32_returnsHowManyFieldsAreOnItsLines(Checks c) {
        hatchingOfEveryField(c, false, (k, region, kind, every, first) -> k.hatched(region, kind, every, first));
        for (int n = 0; n < 4; n++) {
            int kind = n;
            c.due("every line, kind " + kind, 4096, () -> Cases.whole().hatched(0, kind, 1, 0));
            c.due("the frame, kind " + kind, 252, () -> Cases.frame().hatched(0, kind, 1, -100));
        }
        c.due("every other slanted line of checkers", "0 2048", () -> {
            ScrimshawKernel k = Cases.checkers();
            return k.hatched(0, 2, 2, -100) + " " + k.hatched(0, 2, 2, 99);
        });
    }

    @Sentence(of = "Promise 32", says = "Throws `IndexOutOfBoundsException` if there is no such region")
    static void promise32_throwsIfThereIsNoSuchRegion(Checks c) {
        Cases.regionsEnd(c, (k, region) -> k.hatched(region, 0, 1, 0));
        Cases.regionsEnd(c, (k, region) -> k.hatched(region, 3, 20, -100));
    }

    @Sentence(of = "Promise 32",
        says = "Throws `IllegalArgumentException` if kind is not 0 to 3, every is not 1 to 20, or first is not -100 to 100")
    static void promise32_throwsIfKindEveryOrFirstIsBeyond(Checks c) {
        hatchingsEnd(c, (k, region, kind, every, first) -> k.hatched(region, kind, every, first));
    }

    private static ScrimshawKernel two(int x, int y, int otherX, int otherY) {
        ScrimshawKernel k = Cases.at(x, y);
        k.addRectangle(7, otherX, otherY, 1, 1);
        return k;
    }

    @Sentence(of = "Promise 33", says = "another one, or the same")
    static void promise33_theSame(Checks c) {
        c.due("one field", 0, () -> Cases.at(31, 31).apart(0, 0));
        c.due("every field", 0, () -> Cases.whole().apart(0, 0));
        c.due("the empty region", -1, () -> new ScrimshawKernel().apart(7, 7));
    }

    @Sentence(of = "Promise 33", says = "Returns the least distance of a field of the one from one of the other, where that "
        + "is the greater one of those along x and y; -1 if one of both is empty.")
    static void promise33_returnsTheLeastDistanceOrMinusOne(Checks c) {
        int[][] far = {{-32, -32, 31, 31}, {-32, 0, 31, 0}, {0, 31, 0, -32}, {31, -32, -32, 31}, {-32, 5, 31, -9}};
        for (int[] f : far) {
            c.due("from limit to limit", 63, () -> two(f[0], f[1], f[2], f[3]).apart(0, 7));
            c.due("and the other way", 63, () -> two(f[0], f[1], f[2], f[3]).apart(7, 0));
        }
        c.due("one less", 62, () -> two(-31, 31, 31, -31).apart(0, 7));
        c.due("the same field", 0, () -> two(31, -32, 31, -32).apart(0, 7));
        c.due("with a side in common", 1, () -> two(31, -32, 30, -32).apart(0, 7));
        c.due("with a point in common", 1, () -> two(31, 31, 30, 30).apart(0, 7));
        ScrimshawKernel k = Cases.busy();
        c.due("every field and one of them", 0, () -> k.apart(1, 7));
        c.due("four at the limits and one in the middle", 31, () -> k.apart(7, 2));
        c.due("one is empty", "-1 -1", () -> k.apart(3, 1) + " " + k.apart(1, 3));
        k.clear(2);
        c.due("both are", -1, () -> k.apart(2, 3));
    }

    @Sentence(of = "Promise 33", says = "Throws `IndexOutOfBoundsException` if there is no such region")
    static void promise33_throwsIfThereIsNoSuchRegion(Checks c) {
        Cases.regionsEnd(c, (k, region) -> k.apart(region, 0));
        Cases.regionsEnd(c, (k, region) -> k.apart(0, region));
        Cases.regionsEnd(c, (k, region) -> k.apart(region, 3));
        Cases.regionsEnd(c, (k, region) -> k.apart(3, region));
    }

    @Sentence(of = "Promise 34", says = "another one, or the same")
    static void promise34_theSame(Checks c) {
        ScrimshawKernel k = Cases.busy();
        for (int n = 0; n < 8; n++) {
            int region = n;
            c.due("region " + region, true, () -> k.isSameForm(region, region));
        }
    }

    @Sentence(of = "Promise 34", says = "Returns whether they would be the same, if one was moved.")
    static void promise34_returnsWhetherTheyWouldBeTheSame(Checks c) {
        int[][] far = {{-32, -32, 31, 31}, {31, 31, -32, -32}, {-32, 31, 31, -32}, {31, -32, -32, 31}, {0, 0, 0, 0}};
        for (int[] f : far) {
            c.due("one field at " + f[0] + ", " + f[1], true, () -> two(f[0], f[1], f[2], f[3]).isSameForm(0, 7));
        }
        ScrimshawKernel k = Cases.busy();
        c.due("two empty regions", true, () -> {
            k.clear(2);
            return k.isSameForm(2, 3);
        });
        c.due("every field and none", "false false", () -> k.isSameForm(1, 3) + " " + k.isSameForm(3, 1));
        k.undo();
        c.due("one field and none", "false false", () -> k.isSameForm(7, 3) + " " + k.isSameForm(3, 7));
        k.addRectangle(3, -32, -32, 64, 64);
        c.due("every field and every field", true, () -> k.isSameForm(1, 3));
        k.combine(3, 1, 2, 2);
        c.due("every field but four", "false false", () -> k.isSameForm(1, 3) + " " + k.isSameForm(3, 1));
        ScrimshawKernel notched = Cases.whole();
        notched.addRectangle(1, -32, -32, 1, 1);
        notched.combine(2, 0, 1, 2);
        notched.combine(3, 0, 1, 2);
        notched.mirror(3);
        c.due("as many fields with the same bounds", "4095 4095 false false", () -> notched.area(2) + " "
            + notched.area(3) + " " + notched.isSameForm(2, 3) + " " + notched.isSameForm(3, 2));
        ScrimshawKernel cut = new ScrimshawKernel();
        cut.addRectangle(0, 30, 31, 2, 1);
        cut.addRectangle(1, 0, 0, 2, 1);
        cut.addRectangle(2, 31, 30, 1, 2);
        c.due("to the limit", "true true false false", () -> cut.isSameForm(0, 1) + " " + cut.isSameForm(1, 0) + " "
            + cut.isSameForm(1, 2) + " " + cut.isSameForm(2, 0));
        ScrimshawKernel less = new ScrimshawKernel();
        less.addRectangle(0, 0, 0, 2, 2);
        less.addRectangle(1, 31, 0, 1, 2);
        less.addRectangle(2, 0, 31, 2, 1);
        less.addRectangle(3, 31, 31, 1, 1);
        for (int n = 1; n <= 3; n++) {
            int other = n;
            c.due("not without what would be beyond the limits, " + other, "false false",
                () -> less.isSameForm(0, other) + " " + less.isSameForm(other, 0));
        }
        int[] ends = {-32, 31};
        for (int y : ends) {
            ScrimshawKernel end = new ScrimshawKernel();
            end.addRectangle(0, 0, -32, 1, 64);
            end.addRectangle(0, 2, 0, 1, 1);
            end.combine(1, 0, 0, 0);
            end.addRectangle(0, 1, y, 1, 1);
            end.addRectangle(1, 2, y, 1, 1);
            c.due("as many fields, and another one at y " + y + " alone", "66 66 false false", () -> end.area(0) + " "
                + end.area(1) + " " + end.isSameForm(0, 1) + " " + end.isSameForm(1, 0));
        }
    }

    @Sentence(of = "Promise 34", says = "Throws `IndexOutOfBoundsException` if there is no such region")
    static void promise34_throwsIfThereIsNoSuchRegion(Checks c) {
        Cases.regionsEnd(c, (k, region) -> k.isSameForm(region, 0));
        Cases.regionsEnd(c, (k, region) -> k.isSameForm(0, region));
        Cases.regionsEnd(c, (k, region) -> k.isSameForm(region, 3));
        Cases.regionsEnd(c, (k, region) -> k.isSameForm(3, region));
    }

    @Sentence(of = "Promise 35", says = "Returns the mean of the x of its fields, not cut; 0 of an empty region.")
    static void promise35_returnsTheMeanOrZero(Checks c) {
        c.due("the empty region", 0.0, () -> new ScrimshawKernel().middleX(7));
        c.due("a region that was emptied", 0.0, () -> {
            ScrimshawKernel k = Cases.at(31, 31);
            k.clear(0);
            return k.middleX(0);
        });
        c.due("every field", -0.5, () -> Cases.whole().middleX(0));
        c.due("the field at -32", -32.0, () -> Cases.at(-32, 31).middleX(0));
        c.due("the field at 31", 31.0, () -> Cases.at(31, -32).middleX(0));
        c.due("the field at 0", 0.0, () -> Cases.at(0, 0).middleX(0));
        c.due("the field at -1", -1.0, () -> Cases.at(-1, 0).middleX(0));
        ScrimshawKernel k = Cases.whole();
        k.addRectangle(1, 31, 31, 1, 1);
        k.combine(0, 0, 1, 2);
        c.due("every field but the one at 31", (-2048.0 - 31) / 4095, () -> k.middleX(0));
        k.addRectangle(2, -1, 0, 2, 1);
        k.addRectangle(2, 0, 1, 1, 1);
        c.due("between -1 and 0, not cut", -1.0 / 3, () -> k.middleX(2));
        ScrimshawKernel checkers = Cases.checkers();
        c.due("checkers", -0.5, () -> checkers.middleX(0));
    }

    @Sentence(of = "Promise 35", says = "Throws `IndexOutOfBoundsException` if there is no such region")
    static void promise35_throwsIfThereIsNoSuchRegion(Checks c) {
        Cases.regionsEnd(c, (k, region) -> k.middleX(region));
    }

    /** The checksum over the other calls' answers, with a count of changes that is told. */
    private static long digestByCalls(ScrimshawKernel k, int changes) {
        long d = 2543L * 31 + k.points();
        for (int region = 0; region < 8; region++) {
            d = d * 31 + k.area(region);
            d = d * 31 + k.edges(region);
            d = d * 31 + k.pieces(region);
            d = d * 31 + k.holes(region);
            for (int side = 0; side < 4; side++) {
                d = d * 31 + k.bound(region, side);
            }
            int contours = k.contours(region);
            d = d * 31 + contours;
            for (int contour = 0; contour < contours; contour++) {
                d = d * 31 + k.corners(region, contour);
                d = d * 31 + k.areaOf(region, contour);
                d = d * 31 + k.cornerX(region, contour, 0);
                d = d * 31 + k.cornerY(region, contour, 0);
            }
            int strips = k.strips(region);
            d = d * 31 + strips;
            for (int strip = 0; strip < strips; strip++) {
                for (int what = 0; what < 4; what++) {
                    d = d * 31 + k.strip(region, strip, what);
                }
            }
        }
        return d * 31 + changes;
    }

    @Sentence(of = "Promise 36", says = "A number d starts with 2543; then d becomes d * 31 + v, which wraps around as a "
        + "64-bit integer, for each v in this order: points(); for each region area(), edges(), pieces(), holes(), bound() "
        + "for the sides 0 to 3, contours(), and for each corners(), areaOf(), and cornerX(), cornerY() of its first corner; "
        + "then, once for the region, strips(), and for each strip() for 0 to 3; and behind all regions how many changes "
        + "can be undone.")
    static void promise36_wrapsAroundOverEachAnswerInOrder(Checks c) {
        Cases.Made[] made = {ScrimshawKernel::new, Cases::whole, BoundaryAskingTest::corners, Cases::frame, Cases::busy,
            () -> Cases.withPoints(60), () -> Cases.at(31, -32), () -> Cases.drawn("###/#.#/###")};
        int[] changes = {0, 1, 4, 4, 12, 12, 1, 8};
        for (int n = 0; n < made.length; n++) {
            long due = digestByCalls(made[n].make(), changes[n]);
            ScrimshawKernel k = made[n].make();
            c.due("digest " + n, due, () -> k.digest());
            c.due("digest " + n + " once more", due, () -> k.digest());
        }
    }

    @Sentence(of = "Promise 36", says = "how many changes can be undone")
    static void promise36_changesThatCanBeUndoneUpTo12(Checks c) {
        ScrimshawKernel k = new ScrimshawKernel();
        long none = digestByCalls(new ScrimshawKernel(), 0);
        c.due("none", none, () -> k.digest());
        for (int n = 1; n <= 14; n++) {
            int changes = Math.min(n, 12);
            k.clear(7);
            c.due(n + " changes", none + changes, () -> k.digest());
        }
        for (int n = 11; n >= 0; n--) {
            int changes = n;
            k.undo();
            c.due(changes + " are left", none + changes, () -> k.digest());
        }
        k.undo();
        c.due("none is left", none, () -> k.digest());
    }

    @Sentence(of = "Promise 36", says = "Computes a checksum.")
    static void promise36_computesAChecksum(Checks c) {
        ScrimshawKernel k = Cases.drawn("##/##");
        ScrimshawKernel same = new ScrimshawKernel();
        same.lineX(2);
        same.lineY(2);
        same.close(0, 1);
        for (int n = 0; n < 3; n++) {
            same.mirror(7);
        }
        c.due("the same regions, points and changes to undo by other calls", k.digest(), () -> same.digest());
        c.due("it changes nothing", Cases.everything(Cases.drawn("##/##"), 0), () -> Cases.everything(k, 0));
        Cases.Act[] others = {x -> x.addRectangle(0, 31, 31, 1, 1), x -> x.addRectangle(7, -32, -32, 1, 1), x -> x.lineY(1),
            x -> x.clear(7), x -> x.undo(), x -> x.move(0, 0, 1), x -> x.move(0, 1, 0)};
        for (int n = 0; n < others.length; n++) {
            ScrimshawKernel other = Cases.drawn("##/##");
            long was = other.digest();
            others[n].on(other);
            c.due("behind call " + n + " it is another one", false, () -> other.digest() == was);
        }
    }

    @Sentence(of = "Promise 36", says = "Returns d.")
    static void promise36_returnsD(Checks c) {
        // 8 regions of ten zeros each: 2543 times 31 to the power of 82, and 31 to that of 81 for the one point.
        long due = 2543;
        for (int n = 0; n < 82; n++) {
            due = due * 31 + (n == 0 ? 1 : 0);
        }
        c.due("a new object", due, () -> new ScrimshawKernel().digest());
    }
}
