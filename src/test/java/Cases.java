/** What the boundary tests begin with, and what can be seen of a kernel behind a call. */
final class Cases {
    static final int MIN = Integer.MIN_VALUE;
    static final int MAX = Integer.MAX_VALUE;
    static final Class<IndexOutOfBoundsException> INDEX = IndexOutOfBoundsException.class;
    static final Class<IllegalArgumentException> ARGUMENT = IllegalArgumentException.class;
    static final Class<IllegalStateException> STATE = IllegalStateException.class;

    static final int[] NO_REGION = {-1, 8, MIN, MAX};

    interface Made {
        ScrimshawKernel make();
    }

    interface Act {
        Object on(ScrimshawKernel kernel);
    }

    interface RegionAct {
        Object on(ScrimshawKernel kernel, int region);
    }

    private Cases() { }

    /** Region 0 has what is drawn, its left lower field at (0, 0). */
    static ScrimshawKernel drawn(String drawing) {
        ScrimshawKernel k = new ScrimshawKernel();
        Checks.draw(k, 0, 0, 0, drawing);
        return k;
    }

    /** Region 0 has every field. */
    static ScrimshawKernel whole() {
        ScrimshawKernel k = new ScrimshawKernel();
        k.addRectangle(0, -32, -32, 64, 64);
        return k;
    }

    /** Region 0 has one field. */
    static ScrimshawKernel at(int x, int y) {
        ScrimshawKernel k = new ScrimshawKernel();
        k.addRectangle(0, x, y, 1, 1);
        return k;
    }

    /** The four fields that are at two limits each. */
    static void addCorners(ScrimshawKernel k, int region) {
        k.addRectangle(region, -32, -32, 1, 1);
        k.addRectangle(region, 31, -32, 1, 1);
        k.addRectangle(region, -32, 31, 1, 1);
        k.addRectangle(region, 31, 31, 1, 1);
    }

    /** Region 0 has every other field, as a board for checkers: 64 calls and one. */
    static ScrimshawKernel checkers() {
        ScrimshawKernel k = new ScrimshawKernel();
        for (int at = -32; at < 32; at += 2) {
            k.addRectangle(0, -32, at, 64, 1);
            k.addRectangle(1, at, -32, 1, 64);
        }
        k.combine(0, 0, 1, 3);
        return k;
    }

    /** Region 0 is every field but 31 by 31 of them, each of which is a hole: 65 calls. */
    static ScrimshawKernel sieve() {
        ScrimshawKernel k = whole();
        for (int at = -31; at < 31; at += 2) {
            k.addRectangle(1, -32, at, 64, 1);
            k.addRectangle(2, at, -32, 1, 64);
        }
        k.combine(1, 1, 2, 1);
        k.combine(0, 0, 1, 2);
        return k;
    }

    /** Region 0 is the fields at the limits. */
    static ScrimshawKernel frame() {
        ScrimshawKernel k = whole();
        k.addRectangle(1, -31, -31, 62, 62);
        k.combine(0, 0, 1, 2);
        k.clear(1);
        return k;
    }

    /** Region 0 is 32 columns upon the lowest row. */
    static ScrimshawKernel comb() {
        ScrimshawKernel k = new ScrimshawKernel();
        for (int x = -32; x < 32; x += 2) {
            k.addRectangle(0, x, -32, 1, 64);
        }
        k.addRectangle(0, -32, -32, 64, 1);
        return k;
    }

    /** Region 0 winds inwards from (-32, -32), one field wide, to (-2, 0); so does what is around it: 64 calls. */
    static ScrimshawKernel spiral() {
        ScrimshawKernel k = new ScrimshawKernel();
        for (int n = 0; n < 16; n++) {
            int least = 2 * n - 32;
            int size = 64 - 4 * n;
            int ahead = n == 0 ? 0 : 1;
            k.addRectangle(0, least - ahead, least, size + ahead, 1);
            k.addRectangle(0, least + size - 1, least, 1, size);
            k.addRectangle(0, least, least + size - 1, size, 1);
            k.addRectangle(0, least, least + 2, 1, size - 2);
        }
        return k;
    }

    /**
     * Region 0 a ring and a field at its corner, 1 every field, 2 the four at two limits, 3 empty, 4 a square of 5,
     * 5 one of 48, 6 two fields, 7 one; more changes than are kept; and a path of five points.
     */
    static ScrimshawKernel busy() {
        ScrimshawKernel k = new ScrimshawKernel();
        k.addRectangle(7, 0, 0, 1, 1);
        k.addRectangle(0, -1, -1, 3, 3);
        k.combine(0, 0, 7, 2);
        k.addRectangle(0, 2, 2, 1, 1);
        k.addRectangle(1, -32, -32, 64, 64);
        addCorners(k, 2);
        k.addRectangle(3, 8, 8, 2, 2);
        k.clear(3);
        k.addRectangle(4, -2, -2, 5, 5);
        k.addRectangle(5, -24, -24, 48, 48);
        k.addRectangle(6, 3, 3, 1, 1);
        k.addRectangle(6, -9, 0, 1, 1);
        k.moveTo(-3, -2);
        k.lineX(6);
        k.lineY(5);
        k.lineX(-2);
        k.lineY(-3);
        return k;
    }

    /** The same with a path of that many points: 24 stairs up to (24, 24), and back to the left. */
    static ScrimshawKernel withPoints(int points) {
        ScrimshawKernel k = busy();
        k.moveTo(0, 0);
        for (int n = 1; n < points; n++) {
            if (n > 48) {
                k.lineX(-1);
            } else if (n % 2 == 1) {
                k.lineX(1);
            } else {
                k.lineY(1);
            }
        }
        return k;
    }

    static ScrimshawKernel penAt(int x, int y) {
        ScrimshawKernel k = busy();
        k.moveTo(x, y);
        return k;
    }

    static String bounds(ScrimshawKernel k, int region) {
        return k.bound(region, 0) + " " + k.bound(region, 1) + " " + k.bound(region, 2) + " " + k.bound(region, 3);
    }

    static String pen(ScrimshawKernel k) {
        return k.lineX(0) + " " + k.lineY(0) + " " + k.points();
    }

    static String strip(ScrimshawKernel k, int region, int strip) {
        return k.strip(region, strip, 0) + " " + k.strip(region, strip, 1) + " " + k.strip(region, strip, 2) + " "
            + k.strip(region, strip, 3);
    }

    /** A contour's corners, as x,y. */
    static String contour(ScrimshawKernel k, int region, int contour) {
        StringBuilder corners = new StringBuilder();
        for (int n = 0; n < k.corners(region, contour); n++) {
            corners.append(n > 0 ? " " : "").append(k.cornerX(region, contour, n)).append(',')
                .append(k.cornerY(region, contour, n));
        }
        return corners.toString();
    }

    /**
     * The pen, all regions and changes to undo, all regions behind each undo, and what the path goes around by a rule.
     * A digest tells regions whole, as it tells their strips.
     */
    static String everything(ScrimshawKernel k, int rule) {
        StringBuilder seen = new StringBuilder("pen ").append(pen(k)).append(" regions ").append(k.digest());
        int undone = k.undo();
        for (int n = 0; n < 20 && undone != -1; n++) {
            seen.append(" undone ").append(undone).append(' ').append(k.digest());
            undone = k.undo();
        }
        seen.append(" inside ").append(k.close(0, rule)).append(' ').append(k.digest());
        return seen.append(" pen ").append(pen(k)).toString();
    }

    /** A call that throws, and behind which all is as in a twin of the kernel that was not called. */
    static void refused(Checks c, String what, Class<? extends RuntimeException> want, Made made, Act act) {
        for (int rule = 0; rule < 2; rule++) {
            int by = rule;
            ScrimshawKernel k = made.make();
            c.due(what, "throws." + want.getSimpleName(), () -> act.on(k));
            c.due(what + " has changed nothing", everything(made.make(), by), () -> everything(k, by));
        }
    }

    static void answers(Checks c, String what, Act act, Made made) {
        String got = Checks.answer(() -> act.on(made.make()));
        c.due(what + " answers", false, () -> got.startsWith("throws."));
    }

    /** Regions 0 and 7 are there; those just beyond, and as far out as an int goes, are not. */
    static void regionsEnd(Checks c, RegionAct act) {
        answers(c, "region 0", k -> act.on(k, 0), Cases::busy);
        answers(c, "region 7", k -> act.on(k, 7), Cases::busy);
        for (int region : NO_REGION) {
            refused(c, "region " + region, INDEX, Cases::busy, k -> act.on(k, region));
        }
    }
}
