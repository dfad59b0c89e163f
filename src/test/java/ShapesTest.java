import java.util.ArrayList;
import java.util.List;

/** Regions of all 64 by 64 fields that are hard on a program, against the model. */
public final class ShapesTest {
    private interface Stamp {
        void run(int x, int y, int width, int height);
    }

    private interface Shape {
        void draw(Stamp stamp);
    }

    private static final Checks CHECKS = new Checks();

    private final String name;
    private final ScrimshawKernel kernel = new ScrimshawKernel();
    private final Model model = new Model();

    private ShapesTest(String name) {
        this.name = name;
    }

    public static void main(String[] args) {
        shape("spiral", ShapesTest::spiral);
        shape("comb along y", stamp -> comb(stamp, true));
        shape("comb along x", stamp -> comb(stamp, false));
        shape("rings", ShapesTest::rings);
        shape("stairs", ShapesTest::stairs);
        checkers();
        CHECKS.end("ShapesTest");
    }

    /** The shape itself, all but it, and what is inside when both are made narrower or filled. */
    private static void shape(String name, Shape shape) {
        ShapesTest test = new ShapesTest(name);
        List<int[]> stamps = new ArrayList<>();
        shape.draw((x, y, width, height) -> stamps.add(new int[] {x, y, width, height}));
        for (int[] s : stamps) {
            test.both("stamp", () -> test.kernel.addRectangle(0, s[0], s[1], s[2], s[3]),
                () -> test.model.addRectangle(0, s[0], s[1], s[2], s[3]));
        }
        test.both("all", () -> test.kernel.addRectangle(1, -32, -32, 64, 64),
            () -> test.model.addRectangle(1, -32, -32, 64, 64));
        test.both("all but it", () -> test.kernel.combine(2, 0, 1, 3), () -> test.model.combine(2, 0, 1, 3));
        test.ask(0);
        test.ask(2);
        test.change();
    }

    private static void spiral(Stamp stamp) {
        int least = -32;
        int greatest = 31;
        for (int n = 0; n < 16; n++) {
            stamp.run(n == 0 ? least : least - 1, least, greatest - least + (n == 0 ? 1 : 2), 1);
            stamp.run(greatest, least, 1, greatest - least + 1);
            stamp.run(least, greatest, greatest - least + 1, 1);
            stamp.run(least, least + 2, 1, greatest - least - 1);
            least += 2;
            greatest -= 2;
        }
    }

    private static void comb(Stamp stamp, boolean isAlongY) {
        for (int n = 0; n < 32; n++) {
            int at = -32 + 2 * n;
            int end = n % 2 == 0 ? -32 : 31;
            if (isAlongY) {
                stamp.run(at, -32, 1, 64);
                stamp.run(n < 31 ? at + 1 : at, end, 1, 1);
            } else {
                stamp.run(-32, at, 64, 1);
                stamp.run(end, n < 31 ? at + 1 : at, 1, 1);
            }
        }
    }

    private static void rings(Stamp stamp) {
        for (int n = 0; n < 16; n++) {
            int least = -32 + 2 * n;
            int size = 64 - 4 * n;
            stamp.run(least, least, size, 1);
            stamp.run(least, least + size - 1, size, 1);
            stamp.run(least, least, 1, size);
            stamp.run(least + size - 1, least, 1, size);
        }
    }

    private static void stairs(Stamp stamp) {
        for (int n = 0; n < 64; n++) {
            stamp.run(-32 + n, -32 + n, 1, 1);
            if (n < 60) {
                stamp.run(31 - n, -30 + n, 3 < n ? 3 : n + 1, 1);
            }
        }
    }

    /** Rows turned over by columns: fields that have just points in common. */
    private static void checkers() {
        for (int width = 1; width <= 3; width++) {
            int wide = width;
            ShapesTest test = new ShapesTest("checkers of " + width);
            for (int at = -32; at + width <= 32; at += 2 * width) {
                int from = at;
                test.both("row", () -> test.kernel.addRectangle(0, -32, from, 64, wide),
                    () -> test.model.addRectangle(0, -32, from, 64, wide));
                test.both("column", () -> test.kernel.addRectangle(1, from, -32, 1, 64),
                    () -> test.model.addRectangle(1, from, -32, 1, 64));
            }
            test.both("turned over", () -> test.kernel.combine(2, 0, 1, 3), () -> test.model.combine(2, 0, 1, 3));
            test.both("cut", () -> test.kernel.combine(0, 0, 1, 2), () -> test.model.combine(0, 0, 1, 2));
            test.ask(0);
            test.ask(2);
            test.change();
        }
    }

    private void both(String call, Checks.Call program, Checks.Call due) {
        CHECKS.due(name + ": " + call, Checks.answer(due), program);
    }

    private void ask(int region) {
        both("digest", () -> kernel.digest(), () -> model.digest());
        int contours = model.contours(region);
        int[] some = {0, 1, contours / 2, contours - 1, contours};
        for (int contour : some) {
            both("corners", () -> kernel.corners(region, contour), () -> model.corners(region, contour));
            both("areaOf", () -> kernel.areaOf(region, contour), () -> model.areaOf(region, contour));
            int corners = contour >= 0 && contour < contours ? model.corners(region, contour) : 0;
            int[] places = {0, 1, corners / 2, corners - 1, corners};
            for (int corner : places) {
                both("cornerX", () -> kernel.cornerX(region, contour, corner),
                    () -> model.cornerX(region, contour, corner));
                both("cornerY", () -> kernel.cornerY(region, contour, corner),
                    () -> model.cornerY(region, contour, corner));
            }
        }
        for (int k = 0; k < 4; k++) {
            int kind = k;
            both("hatch", () -> kernel.hatch(region, kind, 1, 0), () -> model.hatch(region, kind, 1, 0));
            both("hatched", () -> kernel.hatched(region, kind, 3, 50), () -> model.hatched(region, kind, 3, 50));
        }
        both("last strip", () -> kernel.strip(region, kernel.strips(region) - 1, 1),
            () -> model.strip(region, model.strips(region) - 1, 1));
        both("apart", () -> kernel.apart(0, region), () -> model.apart(0, region));
        both("isSameForm", () -> kernel.isSameForm(0, region), () -> model.isSameForm(0, region));
        both("middleX", () -> kernel.middleX(region), () -> model.middleX(region));
    }

    private void change() {
        both("keepPiece", () -> kernel.keepPiece(2, 0, 0), () -> model.keepPiece(2, 0, 0));
        both("keepPiece, another", () -> kernel.keepPiece(0, -32, -32), () -> model.keepPiece(0, -32, -32));
        both("digest", () -> kernel.digest(), () -> model.digest());
        both("undo", () -> kernel.undo() + kernel.undo(), () -> model.undo() + model.undo());
        both("fill", () -> kernel.fill(0), () -> model.fill(0));
        both("fill, the other", () -> kernel.fill(2), () -> model.fill(2));
        both("digest", () -> kernel.digest(), () -> model.digest());
        both("undo", () -> kernel.undo() + kernel.undo(), () -> model.undo() + model.undo());
        both("turn", () -> kernel.turn(0, 3), () -> model.turn(0, 3));
        both("mirror", () -> kernel.mirror(2), () -> model.mirror(2));
        both("digest", () -> kernel.digest(), () -> model.digest());
    }
}
