import java.util.Random;

/** Runs of calls by chance, always the same ones, on the program and on the model. */
public final class ModelTest {
    private static final int RUNS = 300;
    private static final int MOST_CALLS = 512;

    private final Checks checks = new Checks();
    private ScrimshawKernel kernel;
    private Model model;
    private Random chance;
    private int calls;
    private int seed;

    public static void main(String[] args) {
        ModelTest test = new ModelTest();
        for (int seed = 0; seed < RUNS; seed++) {
            test.run(seed);
        }
        test.checks.end("ModelTest");
    }

    private void run(int run) {
        kernel = new ScrimshawKernel();
        model = new Model();
        chance = new Random(run);
        seed = run;
        calls = 0;
        int regions = 1 + run % 4;
        while (calls < MOST_CALLS) {
            if (chance.nextInt(40) == 0) {
                both("digest()", () -> kernel.digest(), () -> model.digest());
            } else if (chance.nextInt(100) < 5) {
                penCall(regions);
            } else if (chance.nextInt(100) < 65) {
                change(regions);
            } else {
                ask(regions);
            }
        }
    }

    /** Behind its last call an object promises nothing more. */
    private void both(String call, Checks.Call program, Checks.Call due) {
        calls++;
        if (calls <= MOST_CALLS) {
            checks.due("run " + seed + " call " + calls + " " + call, Checks.answer(due), program);
        }
    }

    /** From least to greatest, now and then just beyond, and seldom far beyond. */
    private int number(int least, int greatest) {
        int kind = chance.nextInt(60);
        if (kind == 0) {
            return chance.nextBoolean() ? least - 1 : greatest + 1;
        }
        if (kind == 1 && chance.nextInt(4) == 0) {
            return chance.nextBoolean() ? Integer.MIN_VALUE : Integer.MAX_VALUE;
        }
        if (kind < 6) {
            return chance.nextBoolean() ? least : greatest;
        }
        return least + chance.nextInt(greatest - least + 1);
    }

    private int region(int regions) {
        return chance.nextInt(150) == 0 ? number(-1, 8) : chance.nextInt(regions);
    }

    private void penCall(int regions) {
        int moves = chance.nextInt(12) == 0 ? 70 : chance.nextInt(14);
        if (chance.nextBoolean()) {
            int x = number(-24, 24);
            int y = number(-24, 24);
            both("moveTo(" + x + ", " + y + ")", () -> kernel.moveTo(x, y), () -> model.moveTo(x, y));
        }
        for (int k = 0; k < moves; k++) {
            int by = chance.nextInt(20) == 0 ? number(-49, 49) : number(-9, 9);
            if (chance.nextBoolean()) {
                both("lineX(" + by + ")", () -> kernel.lineX(by), () -> model.lineX(by));
            } else {
                both("lineY(" + by + ")", () -> kernel.lineY(by), () -> model.lineY(by));
            }
        }
        both("points()", () -> kernel.points(), () -> model.points());
        if (chance.nextInt(4) != 0) {
            int region = region(regions);
            int rule = number(0, 1);
            both("close(" + region + ", " + rule + ")", () -> kernel.close(region, rule),
                () -> model.close(region, rule));
        }
    }

    private void change(int regions) {
        int region = region(regions);
        int kind = chance.nextInt(seed % 3 == 0 ? 30 : 14);
        switch (kind) {
            case 0:
                combine(region, region(regions), region(regions), number(0, 3));
                break;
            case 1:
                move(region, number(-64, 64), number(-64, 64));
                break;
            case 2:
                move(region, number(-5, 5), number(-5, 5));
                break;
            case 3:
                turn(region, number(0, 3));
                break;
            case 4:
                both("mirror(" + region + ")", () -> kernel.mirror(region), () -> model.mirror(region));
                break;
            case 5:
                grow(region, chance.nextInt(3) == 0 ? number(0, 8) : 1, number(0, 1));
                break;
            case 6:
                shrink(region, chance.nextInt(3) == 0 ? number(0, 8) : 1, number(0, 1));
                break;
            case 7:
                both("fill(" + region + ")", () -> kernel.fill(region), () -> model.fill(region));
                break;
            case 8:
                keepPiece(region, number(-32, 31), number(-32, 31));
                break;
            case 9:
                if (chance.nextInt(4) == 0) {
                    both("clear(" + region + ")", () -> kernel.clear(region), () -> model.clear(region));
                }
                break;
            case 10:
                undo();
                break;
            default:
                stamp(region);
                break;
        }
    }

    private void undo() {
        for (int k = chance.nextInt(20) == 0 ? 14 : 1 + chance.nextInt(2); k > 0; k--) {
            both("undo()", () -> kernel.undo(), () -> model.undo());
        }
    }

    /** A rectangle by itself, or one that turns over what it meets: so that holes and points come about. */
    private void stamp(int region) {
        int x = number(-32, 31);
        int y = number(-32, 31);
        boolean isWide = chance.nextInt(4) == 0;
        int width = isWide ? number(1, 64) : number(1, Math.max(1, Math.min(9, 32 - Math.min(x, 31))));
        int height = isWide ? number(1, 64) : number(1, Math.max(1, Math.min(9, 32 - Math.min(y, 31))));
        if (chance.nextInt(3) == 0) {
            addRectangle(region, x, y, width, height);
        } else {
            both("clear(7)", () -> kernel.clear(7), () -> model.clear(7));
            addRectangle(7, x, y, width, height);
            combine(region, region, 7, 3);
        }
    }

    private void addRectangle(int region, int x, int y, int width, int height) {
        both("addRectangle(" + region + ", " + x + ", " + y + ", " + width + ", " + height + ")",
            () -> kernel.addRectangle(region, x, y, width, height),
            () -> model.addRectangle(region, x, y, width, height));
    }

    private void combine(int region, int one, int other, int operation) {
        both("combine(" + region + ", " + one + ", " + other + ", " + operation + ")",
            () -> kernel.combine(region, one, other, operation),
            () -> model.combine(region, one, other, operation));
    }

    private void move(int region, int byX, int byY) {
        both("move(" + region + ", " + byX + ", " + byY + ")", () -> kernel.move(region, byX, byY),
            () -> model.move(region, byX, byY));
    }

    private void turn(int region, int quarters) {
        both("turn(" + region + ", " + quarters + ")", () -> kernel.turn(region, quarters),
            () -> model.turn(region, quarters));
    }

    private void grow(int region, int by, int kind) {
        both("grow(" + region + ", " + by + ", " + kind + ")", () -> kernel.grow(region, by, kind),
            () -> model.grow(region, by, kind));
    }

    private void shrink(int region, int by, int kind) {
        both("shrink(" + region + ", " + by + ", " + kind + ")", () -> kernel.shrink(region, by, kind),
            () -> model.shrink(region, by, kind));
    }

    private void keepPiece(int region, int x, int y) {
        both("keepPiece(" + region + ", " + x + ", " + y + ")", () -> kernel.keepPiece(region, x, y),
            () -> model.keepPiece(region, x, y));
    }

    private void ask(int regions) {
        int region = region(regions);
        switch (chance.nextInt(6)) {
            case 0:
                askCounts(region);
                break;
            case 1:
                askFields(region);
                break;
            case 2:
                askContour(region);
                break;
            case 3:
                askStrips(region);
                break;
            case 4:
                askHatching(region);
                break;
            default:
                askTwo(region, region(regions));
                break;
        }
    }

    private void askCounts(int region) {
        both("area(" + region + ")", () -> kernel.area(region), () -> model.area(region));
        both("edges(" + region + ")", () -> kernel.edges(region), () -> model.edges(region));
        both("pieces(" + region + ")", () -> kernel.pieces(region), () -> model.pieces(region));
        both("holes(" + region + ")", () -> kernel.holes(region), () -> model.holes(region));
    }

    private void askFields(int region) {
        int x = number(-32, 31);
        int y = number(-32, 31);
        int side = number(0, 3);
        both("has(" + region + ", " + x + ", " + y + ")", () -> kernel.has(region, x, y),
            () -> model.has(region, x, y));
        both("bound(" + region + ", " + side + ")", () -> kernel.bound(region, side), () -> model.bound(region, side));
        both("middleX(" + region + ")", () -> kernel.middleX(region), () -> model.middleX(region));
    }

    private void askContour(int region) {
        boolean isThere = region >= 0 && region < 8 && model.contours(region) > 0;
        int contour = isThere ? number(0, model.contours(region) - 1) : number(0, 1);
        boolean isCorner = isThere && contour >= 0 && contour < model.contours(region);
        int corner = isCorner ? number(0, model.corners(region, contour) - 1) : number(0, 1);
        String of = region + ", " + contour;
        both("contours(" + region + ")", () -> kernel.contours(region), () -> model.contours(region));
        both("corners(" + of + ")", () -> kernel.corners(region, contour), () -> model.corners(region, contour));
        both("areaOf(" + of + ")", () -> kernel.areaOf(region, contour), () -> model.areaOf(region, contour));
        both("cornerX(" + of + ", " + corner + ")", () -> kernel.cornerX(region, contour, corner),
            () -> model.cornerX(region, contour, corner));
        both("cornerY(" + of + ", " + corner + ")", () -> kernel.cornerY(region, contour, corner),
            () -> model.cornerY(region, contour, corner));
    }

    private void askStrips(int region) {
        boolean isThere = region >= 0 && region < 8 && model.strips(region) > 0;
        int strip = isThere ? number(0, model.strips(region) - 1) : number(0, 1);
        int what = number(0, 3);
        both("strips(" + region + ")", () -> kernel.strips(region), () -> model.strips(region));
        both("strip(" + region + ", " + strip + ", " + what + ")", () -> kernel.strip(region, strip, what),
            () -> model.strip(region, strip, what));
    }

    private void askHatching(int region) {
        int kind = number(0, 3);
        int every = number(1, 20);
        int first = number(-100, 100);
        String of = region + ", " + kind + ", " + every + ", " + first;
        both("hatch(" + of + ")", () -> kernel.hatch(region, kind, every, first),
            () -> model.hatch(region, kind, every, first));
        both("hatched(" + of + ")", () -> kernel.hatched(region, kind, every, first),
            () -> model.hatched(region, kind, every, first));
    }

    private void askTwo(int one, int other) {
        String of = one + ", " + other;
        both("apart(" + of + ")", () -> kernel.apart(one, other), () -> model.apart(one, other));
        both("isSameForm(" + of + ")", () -> kernel.isSameForm(one, other), () -> model.isSameForm(one, other));
    }
}
