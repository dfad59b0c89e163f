import java.io.IOException;

/** What stands ahead of the promises: a test for each sentence that names a boundary case. */
public final class BoundaryTermsTest {
    private static final int MIN = Cases.MIN;
    private static final int MAX = Cases.MAX;

    public static void main(String[] args) throws IOException {
        Sentences.run(BoundaryTermsTest.class);
    }

    /** Moves along x and y in turn, beginning along x. */
    private static ScrimshawKernel path(int... by) {
        ScrimshawKernel k = new ScrimshawKernel();
        for (int n = 0; n < by.length; n++) {
            if (n % 2 == 0) {
                k.lineX(by[n]);
            } else {
                k.lineY(by[n]);
            }
        }
        return k;
    }

    /** A path that goes around the field (0, 0) again and again, to the left (1) or to the right (-1). */
    private static ScrimshawKernel around(int moves, int side) {
        ScrimshawKernel k = new ScrimshawKernel();
        if (side < 0) {
            k.moveTo(1, 0);
        }
        for (int n = 0; n < moves; n++) {
            int by = n % 4 < 2 ? 1 : -1;
            if (n % 2 == 0) {
                k.lineX(by * side);
            } else {
                k.lineY(by);
            }
        }
        return k;
    }

    @Sentence(of = "What it is", says = "An object is used for at most 512 calls after it has been made")
    static void whatitis_512Calls(Checks c) {
        ScrimshawKernel k = new ScrimshawKernel();
        for (int n = 0; n < 499; n++) {
            k.addRectangle(n % 8, n % 64 - 32, n / 64, 1, 1);
        }
        for (int n = 0; n < 12; n++) {
            k.undo();
        }
        // What the first 487 calls added is left: 60 fields for each region, and one more for the first seven.
        c.due("the 512th", 61, () -> k.area(6));
        ScrimshawKernel asked = Cases.busy();
        long was = Cases.busy().digest();
        for (int n = 0; n < 480; n++) {
            asked.digest();
        }
        c.due("behind 480 digests", was, () -> asked.digest());
    }

    @Sentence(of = "Terms",
        says = "The field with the numbers x and y is the square from the point (x, y) to the point (x + 1, y + 1).")
    static void terms_theFieldIsASquare(Checks c) {
        c.due("at the least", "-32,-32 -31,-32 -31,-31 -32,-31", () -> Cases.contour(Cases.at(-32, -32), 0, 0));
        c.due("at the greatest", "31,31 32,31 32,32 31,32", () -> Cases.contour(Cases.at(31, 31), 0, 0));
        c.due("at 0", "0,0 1,0 1,1 0,1", () -> Cases.contour(Cases.at(0, 0), 0, 0));
        c.due("at -1", "-1,-1 0,-1 0,0 -1,0", () -> Cases.contour(Cases.at(-1, -1), 0, 0));
    }

    @Sentence(of = "Terms", says = "A region is a set of finitely many fields.")
    static void terms_aRegionIsASet(Checks c) {
        ScrimshawKernel k = Cases.whole();
        c.due("none twice", 4096, () -> k.addRectangle(0, -32, -32, 64, 64));
        c.due("or none at all", 0, () -> k.area(1));
    }

    @Sentence(of = "Terms", says = "There are 8 regions, numbered from 0, all empty at first.")
    static void terms_thereAre8Regions(Checks c) {
        ScrimshawKernel k = new ScrimshawKernel();
        for (int n = 0; n < 8; n++) {
            int region = n;
            c.due("region " + region, 0, () -> k.area(region));
            c.due("takes a field", 1, () -> k.addRectangle(region, region, 0, 1, 1));
        }
        for (int n = 0; n < 8; n++) {
            int region = n;
            c.due("region " + region + " is one of its own", region + " 0 " + region + " 0", () -> Cases.bounds(k, region));
        }
        Cases.regionsEnd(c, (kernel, region) -> kernel.area(region));
    }

    @Sentence(of = "Terms",
        says = "No field of a region has an x or y less than -32, or greater than 31: what would give it one is refused.")
    static void terms_noFieldBeyond(Checks c) {
        Cases.Act[] beyond = {k -> k.addRectangle(3, -33, 0, 1, 1), k -> k.addRectangle(3, 0, -33, 1, 1),
            k -> k.addRectangle(3, 32, 0, 1, 1), k -> k.addRectangle(3, 0, 32, 1, 1), k -> k.move(2, 1, 0),
            k -> k.move(2, -1, 0), k -> k.move(2, 0, 1), k -> k.move(2, 0, -1), k -> k.grow(2, 1, 0), k -> k.grow(2, 1, 1)};
        for (int n = 0; n < beyond.length; n++) {
            Cases.refused(c, "call " + n, Cases.STATE, Cases::busy, beyond[n]);
        }
        Cases.Act[] within = {k -> k.addRectangle(3, -32, -32, 64, 64), k -> k.move(2, 0, 0), k -> k.grow(2, 0, 0),
            k -> k.turn(2, 1), k -> k.turn(1, 3), k -> k.mirror(2), k -> k.mirror(1), k -> k.fill(2), k -> k.shrink(1, 1, 0),
            k -> k.combine(0, 1, 2, 0)};
        for (int n = 0; n < within.length; n++) {
            Cases.answers(c, "call " + n + " within", within[n], Cases::busy);
        }
    }

    @Sentence(of = "Terms", says = "The pen is at a point, (0, 0) at first; the path is a row of points, of which each next "
        + "one is right, left, above or below the one ahead, at first just this one.")
    static void terms_thePenIsAtZeroAtFirst(Checks c) {
        c.due("a new object", "0 0 1", () -> Cases.pen(new ScrimshawKernel()));
        ScrimshawKernel k = path(1, 1);
        c.due("the field right of and above (0, 0)", "1 0 0 0 0", () -> k.close(0, 0) + " " + Cases.bounds(k, 0));
        k.moveTo(-24, -24);
        k.lineX(48);
        k.lineY(48);
        c.due("each one as far as can be", 2304, () -> k.close(0, 0));
    }

    @Sentence(of = "Terms", says = "Closing a path: a last row of moves leads back to the first point (first along x, then "
        + "along y), and the path is one that is closed.")
    static void terms_closingLeadsBackAlongXFirst(Checks c) {
        for (int n = 0; n < 2; n++) {
            int rule = n;
            c.due("back along x, then y, rule " + rule, 6, () -> path(3, 2).close(0, rule));
            c.due("back along x upon itself, rule " + rule, 0, () -> path(0, 2, 3).close(0, rule));
            c.due("along x alone, rule " + rule, 6, () -> path(0, 2, 3, -2).close(0, rule));
            c.due("along y alone, rule " + rule, 6, () -> path(3, 2, -3).close(0, rule));
            c.due("none, as it is there, rule " + rule, 6, () -> path(3, 2, -3, -2).close(0, rule));
            c.due("none, of a path of one point, rule " + rule, 0, () -> path().close(0, rule));
            c.due("upon itself along x, rule " + rule, 0, () -> path(24).close(0, rule));
            c.due("upon itself along y, rule " + rule, 0, () -> path(0, -24).close(0, rule));
            c.due("to the left and down, rule " + rule, 576, () -> path(-24, -24).close(0, rule));
            c.due("behind 60 points, rule " + rule, 300, () -> Cases.withPoints(60).close(0, rule));
        }
    }

    @Sentence(of = "Terms", says = "By the rule 0 a field is inside, if a line from its middle to the right crosses the path "
        + "an odd number of times (two moves upon each other are two crossings)")
    static void terms_rule0AnOddNumberOfTimes(Checks c) {
        int[] moves = {0, 3, 4, 7, 8, 11, 55, 56, 59};
        // A way back of one move, behind the third of four, ends a round, too.
        int[] rounds = {0, 1, 1, 2, 2, 3, 14, 14, 15};
        for (int n = 0; n < moves.length; n++) {
            int count = moves[n];
            int due = rounds[n] % 2;
            c.due(rounds[n] + " times to the left", due, () -> around(count, 1).close(0, 0));
            c.due(rounds[n] + " times to the right", due, () -> around(count, -1).close(0, 0));
        }
        c.due("there and back", 0, () -> path(1, 1, 0, -1, -1).close(0, 0));
        c.due("a line twice, and the field beyond it", 4, () -> path(2, 5, 0, -3).close(0, 0));
        ScrimshawKernel k = new ScrimshawKernel();
        k.moveTo(24, 24);
        k.lineX(-48);
        k.lineY(-48);
        k.lineX(48);
        k.close(0, 0);
        c.due("at 24, which no field is right of", "true true false false",
            () -> k.has(0, 23, 23) + " " + k.has(0, -24, -24) + " " + k.has(0, 24, 0) + " " + k.has(0, -25, 0));
    }

    @Sentence(of = "Terms", says = "by the rule 1, if it does so upwards more, or less, often than downwards")
    static void terms_rule1MoreOrLessOften(Checks c) {
        int[] moves = {0, 3, 4, 7, 8, 55, 56, 59};
        for (int n = 0; n < moves.length; n++) {
            int count = moves[n];
            int due = count == 0 ? 0 : 1;
            c.due("upwards more often, moves " + count, due, () -> around(count, 1).close(0, 1));
            c.due("downwards more often, moves " + count, due, () -> around(count, -1).close(0, 1));
        }
        c.due("as often", 0, () -> path(1, 1, -1, -1, 0, 1, 1, -1, -1).close(0, 1));
        c.due("twice upwards, once downwards", 1, () -> path(1, 1, -1, -1, 1, 1, -1, -1, 0, 1, 1, -1, -1).close(0, 1));
        c.due("as often at two places, and the field between them", "1 1 0 1 0", () -> {
            ScrimshawKernel k = path(1, 1, 1, -1);
            return k.close(0, 1) + " " + Cases.bounds(k, 0);
        });
        ScrimshawKernel k = new ScrimshawKernel();
        k.moveTo(-24, -24);
        k.lineY(48);
        k.lineX(48);
        k.lineY(-48);
        k.close(0, 1);
        c.due("downwards at 24", "true true false false",
            () -> k.has(0, 23, 23) + " " + k.has(0, -24, -24) + " " + k.has(0, 24, 0) + " " + k.has(0, -25, 0));
    }

    @Sentence(of = "Terms", says = "(A closed path of which nothing is inside gives the empty region.)")
    static void terms_nothingInsideGivesTheEmptyRegion(Checks c) {
        for (int n = 0; n < 2; n++) {
            int rule = n;
            Cases.Made[] made = {Cases::busy, () -> Cases.penAt(24, 24), () -> Cases.withPoints(2)};
            for (int m = 0; m < made.length; m++) {
                ScrimshawKernel k = made[m].make();
                if (m == 0) {
                    k.moveTo(-24, 24);
                    k.lineY(-48);
                    k.lineY(48);
                }
                c.due("path " + m + " in place of every field, rule " + rule, 0, () -> k.close(1, rule));
                c.due("path " + m + ", which is empty then", "0 0 0 0 0 0 0",
                    () -> k.edges(1) + " " + k.contours(1) + " " + k.strips(1) + " " + Cases.bounds(k, 1));
            }
        }
    }

    @Sentence(of = "Terms",
        says = "An EDGE of a region is a side of a field that is in it, beyond which there is one that is not.")
    static void terms_anEdgeIsASide(Checks c) {
        int[][] fields = {{-32, -32}, {31, -32}, {31, 31}, {-32, 31}, {-32, 0}, {31, 0}, {0, -32}, {0, 31}, {0, 0}};
        for (int[] at : fields) {
            c.due("one field at " + at[0] + ", " + at[1], 4, () -> Cases.at(at[0], at[1]).edges(0));
            ScrimshawKernel k = Cases.whole();
            k.addRectangle(1, at[0], at[1], 1, 1);
            k.combine(1, 0, 1, 2);
            int within = (at[0] == -32 || at[0] == 31 ? 1 : 0) + (at[1] == -32 || at[1] == 31 ? 1 : 0);
            c.due("every field but that at " + at[0] + ", " + at[1], 256 + 4 - 2 * within, () -> k.edges(1));
        }
        c.due("every field: those at the limits", 256, () -> Cases.whole().edges(0));
        c.due("the empty region", 0, () -> new ScrimshawKernel().edges(0));
    }

    @Sentence(of = "Terms", says = "Its length is 1.")
    static void terms_anEdgesLengthIs1(Checks c) {
        ScrimshawKernel k = new ScrimshawKernel();
        k.addRectangle(0, -32, 31, 64, 1);
        k.addRectangle(1, 31, -32, 1, 64);
        c.due("a row of 64", "130 4", () -> k.edges(0) + " " + k.corners(0, 0));
        c.due("a column of 64", "130 4", () -> k.edges(1) + " " + k.corners(1, 0));
    }

    @Sentence(of = "Terms", says = "EDGES go so that the region is to their left.")
    static void terms_theRegionIsToTheirLeft(Checks c) {
        c.due("around every field", "-32,-32 32,-32 32,32 -32,32", () -> Cases.contour(Cases.whole(), 0, 0));
        c.due("around the frame's hole", "-31,-31 -31,31 31,31 31,-31", () -> Cases.contour(Cases.frame(), 0, 1));
        c.due("around a hole of one field", "1,1 1,2 2,2 2,1", () -> Cases.contour(Cases.drawn("###/#.#/###"), 0, 1));
    }

    @Sentence(of = "Terms", says = "A CONTOUR is a closed row of different EDGES, each of which begins where the one ahead "
        + "ends; where two EDGES begin at the end of one, it goes on by the one that turns left.")
    static void terms_aContourTurnsLeft(Checks c) {
        ScrimshawKernel up = Cases.drawn(".#/#.");
        c.due("two fields, up to the right", "2 0,0 1,0 1,1 0,1 1,1 2,1 2,2 1,2",
            () -> up.contours(0) + " " + Cases.contour(up, 0, 0) + " " + Cases.contour(up, 0, 1));
        ScrimshawKernel down = Cases.drawn("#./.#");
        c.due("two fields, down to the right", "2 1,0 2,0 2,1 1,1 0,1 1,1 1,2 0,2",
            () -> down.contours(0) + " " + Cases.contour(down, 0, 0) + " " + Cases.contour(down, 0, 1));
        ScrimshawKernel limit = new ScrimshawKernel();
        limit.addRectangle(0, 31, 31, 1, 1);
        limit.addRectangle(0, 30, 30, 1, 1);
        c.due("two fields at the limits", "2 30,30 31,30 31,31 30,31 31,31 32,31 32,32 31,32",
            () -> limit.contours(0) + " " + Cases.contour(limit, 0, 0) + " " + Cases.contour(limit, 0, 1));
        ScrimshawKernel hole = Cases.drawn("#####/#.###/##.##/#####");
        c.due("a hole of two, down to the right", "2 2,1 2,2 1,2 1,3 2,3 2,2 3,2 3,1",
            () -> hole.contours(0) + " " + Cases.contour(hole, 0, 1));
        c.due("every point of checkers", 2048, () -> Cases.checkers().contours(0));
    }

    @Sentence(of = "Terms", says = "All EDGES are parted into CONTOURS so.")
    static void terms_allEdgesAreParted(Checks c) {
        Cases.Made[] made = {ScrimshawKernel::new, Cases::whole, Cases::frame, Cases::comb, Cases::busy,
            () -> Cases.drawn("##.##/.#.#./##.##/..#..")};
        for (int n = 0; n < made.length; n++) {
            ScrimshawKernel k = made[n].make();
            c.due("as long together as there are edges, " + n, k.edges(0), () -> lengthOfContours(k));
        }
    }

    private static int lengthOfContours(ScrimshawKernel k) {
        int length = 0;
        for (int contour = 0; contour < k.contours(0); contour++) {
            int corners = k.corners(0, contour);
            int x = k.cornerX(0, contour, 0);
            int y = k.cornerY(0, contour, 0);
            int firstX = x;
            int firstY = y;
            for (int corner = 1; corner < corners; corner++) {
                int nextX = k.cornerX(0, contour, corner);
                int nextY = k.cornerY(0, contour, corner);
                length += Math.abs(nextX - x) + Math.abs(nextY - y);
                x = nextX;
                y = nextY;
            }
            length += Math.abs(firstX - x) + Math.abs(firstY - y);
        }
        return length;
    }

    @Sentence(of = "Terms",
        says = "A CORNER of a CONTOUR is a point at which it turns (one at which it turns twice is two CORNERS of it).")
    static void terms_aPointAtWhichItTurnsTwiceIsTwo(Checks c) {
        ScrimshawKernel hole = Cases.drawn("#####/##.##/#.###/#####");
        c.due("around a hole", "8 1,1 1,2 2,2 2,3 3,3 3,2 2,2 2,1",
            () -> hole.corners(0, 1) + " " + Cases.contour(hole, 0, 1));
        ScrimshawKernel piece = Cases.drawn("###/##./#.#/###");
        c.due("around a piece", "12 0,0 3,0 3,2 2,2 2,1 1,1 1,2 2,2 2,3 3,3 3,4 0,4",
            () -> piece.corners(0, 0) + " " + Cases.contour(piece, 0, 0));
        c.due("a point at which it goes straight is none", 4, () -> Cases.drawn("####").corners(0, 0));
    }

    @Sentence(of = "Terms", says = "CONTOURS are in the order of their lowest CORNERS, of several the leftmost one, the "
        + "lowest first, of several as low from the left on; the CORNERS of each are numbered from 0, beginning with this "
        + "one, as the EDGES go.")
    static void terms_contoursInTheOrderOfTheirLowestCorners(Checks c) {
        ScrimshawKernel k = new ScrimshawKernel();
        Cases.addCorners(k, 0);
        String[] dues = {"-32,-32 -31,-32 -31,-31 -32,-31", "31,-32 32,-32 32,-31 31,-31", "-32,31 -31,31 -31,32 -32,32",
            "31,31 32,31 32,32 31,32"};
        for (int n = 0; n < dues.length; n++) {
            int contour = n;
            c.due("four at the limits " + contour, dues[contour], () -> Cases.contour(k, 0, contour));
        }
        c.due("of two as low the leftmost one", "0,0 1,0 1,1 2,1 2,0 3,0 3,2 0,2",
            () -> Cases.contour(Cases.drawn("###/#.#"), 0, 0));
        c.due("the lowest one, not the leftmost of all", "2,0 3,0 3,2 0,2 0,1 2,1",
            () -> Cases.contour(Cases.drawn("###/..#"), 0, 0));
        ScrimshawKernel order = Cases.drawn("###.#/#.#.#/###..");
        c.due("a hole and a piece as low, the hole at the left", "0,0 1,1 4,1", () -> order.cornerX(0, 0, 0) + ","
            + order.cornerY(0, 0, 0) + " " + order.cornerX(0, 1, 0) + "," + order.cornerY(0, 1, 0) + " "
            + order.cornerX(0, 2, 0) + "," + order.cornerY(0, 2, 0));
        ScrimshawKernel pieces = Cases.drawn("#.###/..#.#/..###");
        c.due("a hole is ahead of a piece that is higher, further left", "2,0 3,1 0,2", () -> pieces.cornerX(0, 0, 0) + ","
            + pieces.cornerY(0, 0, 0) + " " + pieces.cornerX(0, 1, 0) + "," + pieces.cornerY(0, 1, 0) + " "
            + pieces.cornerX(0, 2, 0) + "," + pieces.cornerY(0, 2, 0));
    }

    @Sentence(of = "Terms", says = "Two fields of a region are in one PIECE, if one can go from one to the other by fields "
        + "of the region that have a side in common.")
    static void terms_aPieceHangsTogetherBySides(Checks c) {
        c.due("with a side in common", "1 1", () -> Cases.drawn("##").pieces(0) + " " + Cases.drawn("#/#").pieces(0));
        c.due("with just a point in common", "2 2",
            () -> Cases.drawn("#./.#").pieces(0) + " " + Cases.drawn(".#/#.").pieces(0));
        c.due("along a long way", "1 2080", () -> Cases.comb().pieces(0) + " " + Cases.comb().keepPiece(0, -32, 31));
        // 16 rounds of 64 - 4n: each has four sides of that less 5 fields, and each but the first one more ahead.
        c.due("along a way that winds", "1 2111 2111",
            () -> Cases.spiral().pieces(0) + " " + Cases.spiral().keepPiece(0, -2, 0) + " "
                + Cases.spiral().keepPiece(0, -32, -32));
        c.due("along all limits", "1 252", () -> Cases.frame().pieces(0) + " " + Cases.frame().keepPiece(0, 31, 31));
        for (int n = -31; n < 31; n++) {
            int gap = n;
            ScrimshawKernel k = new ScrimshawKernel();
            k.addRectangle(0, -32, 0, gap + 32, 1);
            k.addRectangle(0, gap + 1, 0, 31 - gap, 1);
            k.combine(1, 0, 0, 0);
            k.turn(1, 1);
            c.due("not over a field that is not in it, along x " + gap, "2 " + (gap + 32) + " " + (31 - gap), () -> {
                String of = k.pieces(0) + " " + k.keepPiece(0, -32, 0);
                k.undo();
                return of + " " + k.keepPiece(0, 31, 0);
            });
            c.due("not over a field that is not in it, along y " + gap, "2 " + (gap + 32) + " " + (31 - gap), () -> {
                String of = k.pieces(1) + " " + k.keepPiece(1, -1, -32);
                k.undo();
                return of + " " + k.keepPiece(1, -1, 31);
            });
        }
        ScrimshawKernel k = new ScrimshawKernel();
        k.addRectangle(0, 31, -32, 1, 1);
        k.addRectangle(0, -32, -31, 1, 1);
        c.due("not from a row's end to the next row's beginning", 2, () -> k.pieces(0));
        k.addRectangle(1, 31, 0, 1, 1);
        k.addRectangle(1, -32, 0, 1, 1);
        c.due("not from limit to limit along x", 2, () -> k.pieces(1));
        k.addRectangle(2, 0, 31, 1, 1);
        k.addRectangle(2, 0, -32, 1, 1);
        c.due("not from limit to limit along y", 2, () -> k.pieces(2));
    }

    private static ScrimshawKernel allBut(int... fields) {
        ScrimshawKernel k = Cases.whole();
        for (int n = 0; n + 1 < fields.length; n += 2) {
            k.addRectangle(1, fields[n], fields[n + 1], 1, 1);
        }
        k.combine(0, 0, 1, 2);
        return k;
    }

    @Sentence(of = "Terms", says = "A HOLE is a set of fields that are not in the region, as great as can be, and finite, in "
        + "which one can go from each one to each other one by fields that have a side, or just a point, in common.")
    static void terms_aHoleIsFiniteAndHangsTogetherByPoints(Checks c) {
        c.due("the greatest", 1, () -> Cases.frame().holes(0));
        c.due("two with a side in common", 1, () -> allBut(0, 0, 1, 0).holes(0));
        c.due("two with a point in common", 1, () -> allBut(0, 0, 1, 1).holes(0));
        c.due("two with a point in common, the other way", 1, () -> allBut(0, 0, 1, -1).holes(0));
        c.due("two apart", 2, () -> allBut(0, 0, 2, 0).holes(0));
        ScrimshawKernel spiral = Cases.spiral();
        c.due("one that winds is not finite, as it ends at a limit", 0, () -> spiral.holes(0));
        spiral.addRectangle(0, -32, -31, 1, 1);
        c.due("one that winds, closed at the limit", 1, () -> spiral.holes(0));
        spiral.addRectangle(0, -2, -1, 1, 1);
        c.due("one that winds, closed within, too", 2, () -> spiral.holes(0));
        c.due("one and two, apart along x", 2, () -> allBut(0, 0, 2, 0, 3, 0).holes(0));
        c.due("one and two, apart along y", 2, () -> allBut(0, 0, 0, 2, 0, 3).holes(0));
        c.due("one and one next to a field at the limit, apart", 1, () -> allBut(-32, 0, -30, 0, -29, 0).holes(0));
        int[][] next = {{-31, -31}, {30, -31}, {30, 30}, {-31, 30}};
        int[][] ends = {{-32, -32}, {31, -32}, {31, 31}, {-32, 31}};
        for (int n = 0; n < 4; n++) {
            int[] in = next[n];
            int[] end = ends[n];
            c.due("one field next to two limits", 1, () -> allBut(in[0], in[1]).holes(0));
            c.due("one at two limits is not finite", 0, () -> allBut(end[0], end[1]).holes(0));
            c.due("one that has a point in common with it is not either", 0,
                () -> allBut(in[0], in[1], end[0], end[1]).holes(0));
        }
        int[][] at = {{0, 31, 1, 30}, {0, -32, 1, -31}, {31, 0, 30, 1}, {-32, 0, -31, 1}};
        for (int[] a : at) {
            c.due("one at a limit is not finite", 0, () -> allBut(a[0], a[1]).holes(0));
            c.due("one that has a point in common with it is not either", 0, () -> allBut(a).holes(0));
            c.due("one next to a limit", 1, () -> allBut(a[2], a[3]).holes(0));
        }
        c.due("of every field", 0, () -> Cases.whole().holes(0));
        c.due("of the empty region", 0, () -> new ScrimshawKernel().holes(0));
    }

    @Sentence(of = "Terms", says = "The STRIPS of a region: for each y, from the least one on, the rows of fields, each as "
        + "long as can be, of the region that are beside one another, from the left on.")
    static void terms_rowsAsLongAsCanBe(Checks c) {
        ScrimshawKernel k = new ScrimshawKernel();
        k.addRectangle(0, -32, -32, 64, 1);
        c.due("a row from limit to limit", "1 -32 -32 64 1", () -> k.strips(0) + " " + Cases.strip(k, 0, 0));
        k.addRectangle(1, 31, -32, 1, 1);
        k.addRectangle(1, -32, -31, 1, 1);
        c.due("none goes on in the next row", "2 31 -32 1 1 -32 -31 1 1",
            () -> k.strips(1) + " " + Cases.strip(k, 1, 0) + " " + Cases.strip(k, 1, 1));
        k.addRectangle(2, -32, 31, 1, 1);
        k.addRectangle(2, 31, 31, 1, 1);
        c.due("from the left on", "2 -32 31 1 1 31 31 1 1",
            () -> k.strips(2) + " " + Cases.strip(k, 2, 0) + " " + Cases.strip(k, 2, 1));
        c.due("of the empty region", 0, () -> k.strips(3));
    }

    @Sentence(of = "Terms", says = "A STRIP is one of these, with all rows of the same two ends right above one another, "
        + "together: a rectangle.")
    static void terms_aStripHasTheSameTwoEnds(Checks c) {
        ScrimshawKernel k = new ScrimshawKernel();
        k.addRectangle(0, 31, -32, 1, 64);
        c.due("from limit to limit", "1 31 -32 1 64", () -> k.strips(0) + " " + Cases.strip(k, 0, 0));
        c.due("not with a row between", 2, () -> Cases.drawn("#/./#").strips(0));
        c.due("not with another left end", 2, () -> Cases.drawn(".#/##").strips(0));
        c.due("not with another right end", 2, () -> Cases.drawn("#./##").strips(0));
        c.due("not with a longer one above", 2, () -> Cases.drawn("##/#.").strips(0));
        c.due("not with a longer one above, to the left", 2, () -> Cases.drawn("##/.#").strips(0));
        c.due("behind another one once more", 3, () -> Cases.drawn("##/#./##").strips(0));
    }

    @Sentence(of = "Terms", says = "STRIPS are in the order of their lowest rows, from the left on.")
    static void terms_stripsInTheOrderOfTheirLowestRows(Checks c) {
        ScrimshawKernel k = Cases.drawn("#../#.#/..#");
        c.due("the lowest first, though further right", "2 0 1 2 0 1 1 2", () -> Cases.strip(k, 0, 0) + " "
            + Cases.strip(k, 0, 1));
        ScrimshawKernel beside = Cases.drawn("#.#/#.#/#..");
        c.due("one that began below is ahead", "0 0 1 3 2 1 1 2", () -> Cases.strip(beside, 0, 0) + " "
            + Cases.strip(beside, 0, 1));
        ScrimshawKernel corners = new ScrimshawKernel();
        Cases.addCorners(corners, 0);
        c.due("four at the limits", "-32 -32 1 1 31 -32 1 1 -32 31 1 1 31 31 1 1", () -> Cases.strip(corners, 0, 0) + " "
            + Cases.strip(corners, 0, 1) + " " + Cases.strip(corners, 0, 2) + " " + Cases.strip(corners, 0, 3));
    }

    @Sentence(of = "Terms", says = "A method that throws an exception changes nothing.")
    static void terms_whatThrowsChangesNothing(Checks c) {
        Cases.Act[] refused = {k -> k.moveTo(25, 0), k -> k.lineX(MAX), k -> k.lineY(MIN), k -> k.lineX(1), k -> k.lineY(-1),
            k -> k.close(8, 0), k -> k.close(0, 2), k -> k.addRectangle(8, 0, 0, 1, 1), k -> k.addRectangle(0, 0, 0, 65, 1),
            k -> k.addRectangle(0, 0, 32, 1, 1), k -> k.combine(0, 1, 8, 0), k -> k.combine(0, 1, 2, 4),
            k -> k.move(8, 0, 0), k -> k.move(0, 65, 0), k -> k.move(1, 0, 1), k -> k.turn(8, 0), k -> k.turn(0, 4),
            k -> k.mirror(8), k -> k.grow(8, 0, 0), k -> k.grow(0, 9, 0), k -> k.grow(1, 1, 1), k -> k.shrink(8, 0, 0),
            k -> k.shrink(1, 9, 0), k -> k.fill(8), k -> k.keepPiece(8, 0, 0), k -> k.clear(8), k -> k.area(8),
            k -> k.edges(8), k -> k.pieces(8), k -> k.holes(8), k -> k.has(8, 0, 0), k -> k.bound(8, 0), k -> k.bound(0, 4),
            k -> k.contours(8), k -> k.corners(0, 3), k -> k.cornerX(0, 0, 4), k -> k.cornerY(0, 0, 4), k -> k.areaOf(0, 3),
            k -> k.strips(8), k -> k.strip(2, 4, 0), k -> k.strip(2, 0, 4), k -> k.hatch(0, 4, 1, 0),
            k -> k.hatched(0, 0, 21, 0), k -> k.apart(0, 8), k -> k.isSameForm(8, 0), k -> k.middleX(8)};
        for (int n = 0; n < 2; n++) {
            int rule = n;
            ScrimshawKernel k = Cases.withPoints(60);
            for (int r = 0; r < refused.length; r++) {
                Cases.Act act = refused[r];
                c.due("call " + r + " throws", true, () -> Checks.answer(() -> act.on(k)).startsWith("throws."));
            }
            c.due("all is as it was", Cases.everything(Cases.withPoints(60), rule), () -> Cases.everything(k, rule));
        }
    }

    @Sentence(of = "Terms", says = "If several exceptions apply, the one that is named first is thrown.")
    static void terms_theOneThatIsNamedFirst(Checks c) {
        Cases.Made full = () -> Cases.withPoints(60);
        Cases.refused(c, "lineX", Cases.ARGUMENT, full, k -> k.lineX(MAX));
        Cases.refused(c, "lineY", Cases.ARGUMENT, full, k -> k.lineY(MIN));
        Cases.refused(c, "close", Cases.INDEX, full, k -> k.close(MIN, MAX));
        Cases.refused(c, "addRectangle, all three", Cases.INDEX, full, k -> k.addRectangle(8, MAX, MIN, 65, 0));
        Cases.refused(c, "addRectangle, two", Cases.ARGUMENT, full, k -> k.addRectangle(0, MAX, MIN, 65, 0));
        Cases.refused(c, "combine", Cases.INDEX, full, k -> k.combine(0, 0, 8, 4));
        Cases.refused(c, "move, two", Cases.INDEX, full, k -> k.move(8, 65, 65));
        Cases.refused(c, "move, the other two", Cases.ARGUMENT, full, k -> k.move(1, 64, 65));
        Cases.refused(c, "turn", Cases.INDEX, full, k -> k.turn(8, 4));
        Cases.refused(c, "grow, two", Cases.INDEX, full, k -> k.grow(8, 9, 2));
        Cases.refused(c, "grow, the other two", Cases.ARGUMENT, full, k -> k.grow(1, 8, 2));
        Cases.refused(c, "shrink", Cases.INDEX, full, k -> k.shrink(8, 9, 2));
        Cases.refused(c, "bound", Cases.INDEX, full, k -> k.bound(8, 4));
        Cases.refused(c, "strip, no region", Cases.INDEX, full, k -> k.strip(8, 0, 4));
        Cases.refused(c, "strip, no strip", Cases.INDEX, full, k -> k.strip(0, 99, 4));
        Cases.refused(c, "hatch", Cases.INDEX, full, k -> k.hatch(8, 4, 0, 101));
        Cases.refused(c, "hatched", Cases.INDEX, full, k -> k.hatched(8, 4, 0, 101));
    }
}
