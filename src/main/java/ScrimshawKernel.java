import java.util.Arrays;

/** A kernel for drawings that go along the two axes. */
public final class ScrimshawKernel {
    private static final int REGIONS = 8;
    private static final int SIZE = 64;
    private static final int LEAST = -32;
    private static final int GREATEST = 31;

    private static final int REACH = 24;
    private static final int MOST_POINTS = 60;
    private static final int MOST_CHANGES = 12;
    private static final int MOST_BY = 64;
    private static final int MOST_GROWTH = 8;
    private static final int MOST_EVERY = 20;
    private static final int MOST_FIRST = 100;

    // Far above what a region can have: each field has four sides, and each contour and strip takes at least one.
    private static final int MOST_EDGES = 4 * SIZE * SIZE;

    private static final long DIGEST_START = 2543;

    // All rows are made here, once: no call makes an object but the exception that it throws.
    private final Fields[] regions = new Fields[REGIONS];
    private final Fields spare = new Fields();
    private final Pen pen = new Pen();
    private final History history = new History();
    private final Flood flood = new Flood();
    private final Outline outline = new Outline();
    private final StripWalk stripWalk = new StripWalk();

    public ScrimshawKernel() {
        for (int k = 0; k < regions.length; k++) {
            regions[k] = new Fields();
        }
    }

    // ---- the pen

    public int moveTo(int x, int y) throws IllegalArgumentException {
        if (!isInReach(x) || !isInReach(y)) {
            throw new IllegalArgumentException("x or y is not -24 to 24");
        }
        int ahead = pen.length();
        pen.begin(x, y);
        return ahead;
    }

    public int lineX(int by) throws IllegalArgumentException, IllegalStateException {
        long to = (long) pen.atX() + by;
        checkLine(by, to);
        if (by != 0) {
            pen.add((int) to, pen.atY());
        }
        return pen.atX();
    }

    public int lineY(int by) throws IllegalArgumentException, IllegalStateException {
        long to = (long) pen.atY() + by;
        checkLine(by, to);
        if (by != 0) {
            pen.add(pen.atX(), (int) to);
        }
        return pen.atY();
    }

    public int close(int region, int rule) throws IndexOutOfBoundsException, IllegalArgumentException {
        Fields fields = regionAt(region);
        if (!isFrom(0, rule, 1)) {
            throw new IllegalArgumentException("rule is not 0 or 1");
        }
        history.keep(region, fields);
        pen.putInside(fields, rule);
        pen.beginAnew();
        return fields.count();
    }

    public int points() {
        return pen.length();
    }

    // ---- changes; each can be undone

    public int addRectangle(int region, int x, int y, int width, int height)
            throws IndexOutOfBoundsException, IllegalArgumentException, IllegalStateException {
        Fields fields = regionAt(region);
        if (!isFrom(1, width, SIZE) || !isFrom(1, height, SIZE)) {
            throw new IllegalArgumentException("width or height is not 1 to 64");
        }
        checkRoom(x, (long) x + width - 1);
        checkRoom(y, (long) y + height - 1);
        history.keep(region, fields);
        // A shift by 64 would be one by 0, so the row of ones is cut from its upper end.
        long row = -1L >>> (SIZE - width) << (x - LEAST);
        for (int k = 0; k < height; k++) {
            fields.putRow(y + k, fields.row(y + k) | row);
        }
        return fields.count();
    }

    public int combine(int region, int one, int other, int operation)
            throws IndexOutOfBoundsException, IllegalArgumentException {
        Fields fields = regionAt(region);
        Fields first = regionAt(one);
        Fields second = regionAt(other);
        if (!isFrom(0, operation, 3)) {
            throw new IllegalArgumentException("operation is not 0 to 3");
        }
        history.keep(region, fields);
        for (int y = LEAST; y <= GREATEST; y++) {
            fields.putRow(y, combined(first.row(y), second.row(y), operation));
        }
        return fields.count();
    }

    public int move(int region, int byX, int byY)
            throws IndexOutOfBoundsException, IllegalArgumentException, IllegalStateException {
        Fields fields = regionAt(region);
        if (!isFrom(-MOST_BY, byX, MOST_BY) || !isFrom(-MOST_BY, byY, MOST_BY)) {
            throw new IllegalArgumentException("byX or byY is not -64 to 64");
        }
        if (!fields.isEmpty()) {
            checkRoom(fields.leastX() + byX, fields.greatestX() + byX);
            checkRoom(fields.leastY() + byY, fields.greatestY() + byY);
        }
        history.keep(region, fields);
        fields.shift(byX, byY);
        return fields.count();
    }

    public int turn(int region, int quarters) throws IndexOutOfBoundsException, IllegalArgumentException {
        Fields fields = regionAt(region);
        if (!isFrom(0, quarters, 3)) {
            throw new IllegalArgumentException("quarters is not 0 to 3");
        }
        history.keep(region, fields);
        for (int k = 0; k < quarters; k++) {
            spare.copy(fields);
            fields.putTurned(spare);
        }
        return fields.count();
    }

    public int mirror(int region) throws IndexOutOfBoundsException {
        Fields fields = regionAt(region);
        history.keep(region, fields);
        for (int y = LEAST; y <= GREATEST; y++) {
            fields.putRow(y, mirrored(fields.row(y)));
        }
        return fields.count();
    }

    public int grow(int region, int by, int kind)
            throws IndexOutOfBoundsException, IllegalArgumentException, IllegalStateException {
        Fields fields = regionAt(region);
        checkGrowth(by, kind);
        if (!fields.isEmpty()) {
            checkRoom(fields.leastX() - by, fields.greatestX() + by);
            checkRoom(fields.leastY() - by, fields.greatestY() + by);
        }
        history.keep(region, fields);
        for (int k = 0; k < by; k++) {
            fields.widen(kind);
        }
        return fields.count();
    }

    public int shrink(int region, int by, int kind) throws IndexOutOfBoundsException, IllegalArgumentException {
        Fields fields = regionAt(region);
        checkGrowth(by, kind);
        history.keep(region, fields);
        for (int k = 0; k < by; k++) {
            fields.narrow(kind);
        }
        return fields.count();
    }

    public int fill(int region) throws IndexOutOfBoundsException {
        Fields fields = regionAt(region);
        history.keep(region, fields);
        return flood.fillHoles(fields);
    }

    public int keepPiece(int region, int x, int y) throws IndexOutOfBoundsException {
        Fields fields = regionAt(region);
        history.keep(region, fields);
        flood.leavePiece(fields, x, y);
        return fields.count();
    }

    public int clear(int region) throws IndexOutOfBoundsException {
        Fields fields = regionAt(region);
        history.keep(region, fields);
        int had = fields.count();
        fields.empty();
        return had;
    }

    public int undo() {
        int region = history.latestRegion();
        if (region >= 0 && region < regions.length) {
            history.takeBack(regions[region]);
        }
        return region;
    }

    // ---- asking

    public int area(int region) throws IndexOutOfBoundsException {
        return regionAt(region).count();
    }

    public int edges(int region) throws IndexOutOfBoundsException {
        return regionAt(region).countEdges();
    }

    public int pieces(int region) throws IndexOutOfBoundsException {
        return flood.countPieces(regionAt(region));
    }

    public int holes(int region) throws IndexOutOfBoundsException {
        return flood.countHoles(regionAt(region));
    }

    public boolean has(int region, int x, int y) throws IndexOutOfBoundsException {
        return regionAt(region).holds(x, y);
    }

    public int bound(int region, int side) throws IndexOutOfBoundsException, IllegalArgumentException {
        Fields fields = regionAt(region);
        if (!isFrom(0, side, 3)) {
            throw new IllegalArgumentException("side is not 0 to 3");
        }
        return boundOf(fields, side);
    }

    public int contours(int region) throws IndexOutOfBoundsException {
        return outline.countContours(regionAt(region));
    }

    public int corners(int region, int contour) throws IndexOutOfBoundsException {
        walkTo(region, contour, 0);
        return outline.cornerCount();
    }

    public int cornerX(int region, int contour, int corner) throws IndexOutOfBoundsException {
        walkTo(region, contour, corner);
        return outline.wantedX();
    }

    public int cornerY(int region, int contour, int corner) throws IndexOutOfBoundsException {
        walkTo(region, contour, corner);
        return outline.wantedY();
    }

    public int areaOf(int region, int contour) throws IndexOutOfBoundsException {
        walkTo(region, contour, 0);
        return outline.areaAround();
    }

    public int strips(int region) throws IndexOutOfBoundsException {
        return stripWalk.countStrips(regionAt(region));
    }

    public int strip(int region, int strip, int what) throws IndexOutOfBoundsException, IllegalArgumentException {
        Fields fields = regionAt(region);
        if (!stripWalk.goTo(fields, strip)) {
            throw new IndexOutOfBoundsException("no such strip");
        }
        if (!isFrom(0, what, 3)) {
            throw new IllegalArgumentException("what is not 0 to 3");
        }
        return stripWalk.measure(what);
    }

    public int hatch(int region, int kind, int every, int first)
            throws IndexOutOfBoundsException, IllegalArgumentException {
        Fields fields = regionAt(region);
        checkHatching(kind, every, first);
        int rows = 0;
        for (int y = LEAST; y <= GREATEST; y++) {
            long begins = fields.row(y) & ~fieldsBehind(fields, y, kind);
            rows += Long.bitCount(begins & fieldsOnLines(y, kind, every, first));
        }
        return rows;
    }

    public int hatched(int region, int kind, int every, int first)
            throws IndexOutOfBoundsException, IllegalArgumentException {
        Fields fields = regionAt(region);
        checkHatching(kind, every, first);
        int count = 0;
        for (int y = LEAST; y <= GREATEST; y++) {
            count += Long.bitCount(fields.row(y) & fieldsOnLines(y, kind, every, first));
        }
        return count;
    }

    public int apart(int one, int other) throws IndexOutOfBoundsException {
        Fields first = regionAt(one);
        Fields second = regionAt(other);
        if (first.isEmpty() || second.isEmpty()) {
            return -1;
        }
        spare.copy(first);
        int distance = 0;
        while (distance < SIZE && !spare.meets(second)) {
            spare.widen(0);
            distance++;
        }
        return distance;
    }

    public boolean isSameForm(int one, int other) throws IndexOutOfBoundsException {
        Fields first = regionAt(one);
        Fields second = regionAt(other);
        // With as many fields in both, none that the shift drops at the limits can go unnoticed.
        if (first.count() != second.count()) {
            return false;
        }
        spare.copy(first);
        spare.shift(second.leastX() - first.leastX(), second.leastY() - first.leastY());
        return spare.isSame(second);
    }

    public double middleX(int region) throws IndexOutOfBoundsException {
        Fields fields = regionAt(region);
        int count = fields.count();
        return count == 0 ? 0.0 : (double) fields.sumOfX() / (double) count;
    }

    public long digest() {
        long d = mixed(DIGEST_START, pen.length());
        for (int k = 0; k < regions.length; k++) {
            Fields fields = regions[k];
            d = mixed(d, fields.count());
            d = mixed(d, fields.countEdges());
            d = mixed(d, flood.countPieces(fields));
            d = mixed(d, flood.countHoles(fields));
            for (int side = 0; side < 4; side++) {
                d = mixed(d, boundOf(fields, side));
            }
            d = mixed(d, outline.countContours(fields));
            d = digestOfContours(d, fields);
            d = mixed(d, stripWalk.countStrips(fields));
            d = digestOfStrips(d, fields);
        }
        return mixed(d, history.count());
    }

    // ---- what the calls above share

    private Fields regionAt(int region) {
        if (region < 0 || region >= regions.length) {
            throw new IndexOutOfBoundsException("no such region");
        }
        return regions[region];
    }

    private void checkLine(int by, long to) {
        if (!isInReach(to)) {
            throw new IllegalArgumentException("the pen would not be at -24 to 24");
        }
        if (by != 0 && pen.isFull()) {
            throw new IllegalStateException("the path has 60 points");
        }
    }

    private static void checkRoom(long least, long greatest) {
        if (least < LEAST || greatest > GREATEST) {
            throw new IllegalStateException("a field would have an x or y that is not -32 to 31");
        }
    }

    private static void checkGrowth(int by, int kind) {
        if (!isFrom(0, by, MOST_GROWTH) || !isFrom(0, kind, 1)) {
            throw new IllegalArgumentException("by is not 0 to 8, or kind is not 0 or 1");
        }
    }

    private static void checkHatching(int kind, int every, int first) {
        if (!isFrom(0, kind, 3) || !isFrom(1, every, MOST_EVERY) || !isFrom(-MOST_FIRST, first, MOST_FIRST)) {
            throw new IllegalArgumentException("kind is not 0 to 3, every not 1 to 20, or first not -100 to 100");
        }
    }

    private void walkTo(int region, int contour, int corner) {
        Fields fields = regionAt(region);
        if (!outline.goTo(fields, contour, corner)) {
            throw new IndexOutOfBoundsException("no such contour");
        }
        if (corner < 0 || corner >= outline.cornerCount()) {
            throw new IndexOutOfBoundsException("no such corner");
        }
    }

    private static boolean isInReach(long at) {
        return at >= -REACH && at <= REACH;
    }

    private static boolean isFrom(int least, int value, int greatest) {
        return value >= least && value <= greatest;
    }

    private static int boundOf(Fields fields, int side) {
        switch (side) {
            case 0:
                return fields.leastX();
            case 1:
                return fields.leastY();
            case 2:
                return fields.greatestX();
            default:
                return fields.greatestY();
        }
    }

    private static long combined(long one, long other, int operation) {
        switch (operation) {
            case 0:
                return one | other;
            case 1:
                return one & other;
            case 2:
                return one & ~other;
            default:
                return one ^ other;
        }
    }

    private static long mirrored(long row) {
        long mirrored = 0;
        for (int k = 0; k < SIZE; k++) {
            mirrored = mirrored << 1 | row >>> k & 1;
        }
        return mirrored;
    }

    /** The fields of a row of which the one behind them on their line is in the region: no row begins there. */
    private static long fieldsBehind(Fields fields, int y, int kind) {
        switch (kind) {
            case 0:
                return fields.row(y) << 1;
            case 1:
                return fields.row(y - 1);
            case 2:
                return fields.row(y + 1) << 1;
            default:
                return fields.row(y - 1) << 1;
        }
    }

    private static long fieldsOnLines(int y, int kind, int every, int first) {
        long on = 0;
        for (int x = LEAST; x <= GREATEST; x++) {
            if (every > 0 && (numberOfLine(x, y, kind) - first) % every == 0) {
                on |= bit(x);
            }
        }
        return on;
    }

    private static int numberOfLine(int x, int y, int kind) {
        switch (kind) {
            case 0:
                return y;
            case 1:
                return x;
            case 2:
                return x + y;
            default:
                return x - y;
        }
    }

    private static long mixed(long d, long v) {
        return d * 31 + v;
    }

    private long digestOfContours(long start, Fields fields) {
        long d = start;
        outline.begin(fields);
        for (int k = 0; k < MOST_EDGES && outline.next(0); k++) {
            d = mixed(d, outline.cornerCount());
            d = mixed(d, outline.areaAround());
            d = mixed(d, outline.wantedX());
            d = mixed(d, outline.wantedY());
        }
        return d;
    }

    private long digestOfStrips(long start, Fields fields) {
        long d = start;
        stripWalk.begin(fields);
        for (int k = 0; k < MOST_EDGES && stripWalk.next(); k++) {
            for (int what = 0; what < 4; what++) {
                d = mixed(d, stripWalk.measure(what));
            }
        }
        return d;
    }

    /** The bit that stands for a field in its row; the x is one that a field may have. */
    private static long bit(int x) {
        return 1L << (x - LEAST);
    }

    /** The number of the lowest bit that is set, from 0 on; 64 if none is. */
    private static int lowestBit(long bits) {
        return Long.bitCount((bits & -bits) - 1);
    }

    /** A set of fields: a row for each y, and in it a bit for each x, the lowest one for the least x. */
    private static final class Fields {
        private final long[] rows = new long[SIZE];

        /** Beyond the limits all rows are empty, as no region has fields there. */
        long row(int y) {
            int at = y - LEAST;
            return at >= 0 && at < rows.length ? rows[at] : 0;
        }

        void putRow(int y, long row) {
            int at = y - LEAST;
            if (at >= 0 && at < rows.length) {
                rows[at] = row;
            }
        }

        boolean holds(int x, int y) {
            int at = y - LEAST;
            boolean isThere = at >= 0 && at < rows.length && x >= LEAST && x <= GREATEST;
            return isThere && (rows[at] >>> (x - LEAST) & 1) != 0;
        }

        void add(int x, int y) {
            int at = y - LEAST;
            if (at >= 0 && at < rows.length && x >= LEAST && x <= GREATEST) {
                rows[at] |= 1L << (x - LEAST);
            }
        }

        void empty() {
            Arrays.fill(rows, 0);
        }

        boolean isEmpty() {
            return columns() == 0;
        }

        void copy(Fields other) {
            for (int y = LEAST; y <= GREATEST; y++) {
                putRow(y, other.row(y));
            }
        }

        boolean isSame(Fields other) {
            for (int y = LEAST; y <= GREATEST; y++) {
                if (row(y) != other.row(y)) {
                    return false;
                }
            }
            return true;
        }

        boolean meets(Fields other) {
            for (int y = LEAST; y <= GREATEST; y++) {
                if ((row(y) & other.row(y)) != 0) {
                    return true;
                }
            }
            return false;
        }

        void unite(Fields other) {
            for (int y = LEAST; y <= GREATEST; y++) {
                putRow(y, row(y) | other.row(y));
            }
        }

        int count() {
            int count = 0;
            for (int y = LEAST; y <= GREATEST; y++) {
                count += Long.bitCount(row(y));
            }
            return count;
        }

        int countEdges() {
            int count = 0;
            // One row beyond the last, whose fields have upper sides too.
            for (int y = LEAST; y <= GREATEST + 1; y++) {
                long runs = row(y) & ~(row(y) << 1);
                count += 2 * Long.bitCount(runs) + Long.bitCount(row(y) ^ row(y - 1));
            }
            return count;
        }

        int sumOfX() {
            int sum = 0;
            for (int x = LEAST; x <= GREATEST; x++) {
                for (int y = LEAST; y <= GREATEST; y++) {
                    if (holds(x, y)) {
                        sum += x;
                    }
                }
            }
            return sum;
        }

        private long columns() {
            long columns = 0;
            for (int y = LEAST; y <= GREATEST; y++) {
                columns |= row(y);
            }
            return columns;
        }

        int leastX() {
            long columns = columns();
            return columns == 0 ? 0 : LEAST + lowestBit(columns);
        }

        int greatestX() {
            long columns = columns();
            for (int x = GREATEST; x >= LEAST; x--) {
                if ((columns & bit(x)) != 0) {
                    return x;
                }
            }
            return 0;
        }

        int leastY() {
            for (int y = LEAST; y <= GREATEST; y++) {
                if (row(y) != 0) {
                    return y;
                }
            }
            return 0;
        }

        int greatestY() {
            for (int y = GREATEST; y >= LEAST; y--) {
                if (row(y) != 0) {
                    return y;
                }
            }
            return 0;
        }

        void shift(int byX, int byY) {
            for (int k = 0; k < SIZE; k++) {
                // From the end to which it goes: what is read is not yet written over.
                int y = byY > 0 ? GREATEST - k : LEAST + k;
                putRow(y, shifted(row(y - byY), byX));
            }
        }

        private static long shifted(long row, int by) {
            // Java takes a shift's count modulo 64.
            if (by <= -SIZE || by >= SIZE) {
                return 0;
            }
            return by >= 0 ? row << by : row >>> -by;
        }

        /** A quarter to the left takes the point (x, y) to (-y, x), and so the field (x, y) to (-y - 1, x). */
        void putTurned(Fields other) {
            for (int y = LEAST; y <= GREATEST; y++) {
                long row = 0;
                for (int x = LEAST; x <= GREATEST; x++) {
                    if (other.holds(y, -x - 1)) {
                        row |= bit(x);
                    }
                }
                putRow(y, row);
            }
        }

        /** Brings in what is at most 1 from a field; n times this is what is at most n from one, for both kinds. */
        void widen(int kind) {
            long below = 0;
            for (int y = LEAST; y <= GREATEST; y++) {
                long here = row(y);
                long ends = below | row(y + 1);
                if (kind == 0) {
                    ends |= ends << 1 | ends >>> 1;
                }
                putRow(y, here | here << 1 | here >>> 1 | ends);
                below = here;
            }
        }

        /** Takes away what is at most 1 from a field that is not here; the shifts bring in those beyond the limits. */
        void narrow(int kind) {
            long below = 0;
            for (int y = LEAST; y <= GREATEST; y++) {
                long here = row(y);
                long ends = below & row(y + 1);
                if (kind == 0) {
                    ends &= ends << 1 & ends >>> 1;
                }
                putRow(y, here & here << 1 & here >>> 1 & ends);
                below = here;
            }
        }
    }

    /** The pen and its path. */
    private static final class Pen {
        private final int[] xs = new int[MOST_POINTS];
        private final int[] ys = new int[MOST_POINTS];
        private int length = 1;
        private int firstX;
        private int firstY;
        private int atX;
        private int atY;

        // For one row of fields: at each x, how often the path goes upwards there, less how often downwards.
        private final int[] crossings = new int[SIZE];

        int length() {
            return length;
        }

        int atX() {
            return atX;
        }

        int atY() {
            return atY;
        }

        boolean isFull() {
            return length >= MOST_POINTS;
        }

        void begin(int x, int y) {
            length = 0;
            firstX = x;
            firstY = y;
            add(x, y);
        }

        void beginAnew() {
            begin(firstX, firstY);
        }

        void add(int x, int y) {
            if (length < xs.length && length < ys.length) {
                xs[length] = x;
                ys[length] = y;
                length++;
                atX = x;
                atY = y;
            }
        }

        void putInside(Fields fields, int rule) {
            for (int y = LEAST; y <= GREATEST; y++) {
                countCrossings(y);
                fields.putRow(y, inside(rule));
            }
        }

        private void countCrossings(int y) {
            Arrays.fill(crossings, 0);
            for (int k = 1; k < length && k < xs.length && k < ys.length; k++) {
                addCrossing(y, xs[k], ys[k - 1], ys[k]);
            }
            // The way back goes along x first, so its part along y is at the first point's x.
            addCrossing(y, firstX, atY, firstY);
        }

        private void addCrossing(int y, int x, int from, int to) {
            int at = x - LEAST;
            if (at < 0 || at >= crossings.length) {
                return;
            }
            if (from <= y && y < to) {
                crossings[at]++;
            }
            if (to <= y && y < from) {
                crossings[at]--;
            }
        }

        private long inside(int rule) {
            long inside = 0;
            // As odd as the number of all crossings, so that it serves both rules.
            int upwards = 0;
            for (int at = crossings.length - 1; at > 0; at--) {
                upwards += crossings[at];
                if (rule == 0 ? (upwards & 1) != 0 : upwards != 0) {
                    // What is at this point's right crosses it no more: the field at its left is the first that does.
                    inside |= 1L << (at - 1);
                }
            }
            return inside;
        }
    }

    /** What the regions were ahead of the latest changes, in a ring. */
    private static final class History {
        private final Fields[] kept = new Fields[MOST_CHANGES];
        private final int[] keptRegions = new int[MOST_CHANGES];
        private int latest;
        private int count;

        History() {
            for (int k = 0; k < kept.length; k++) {
                kept[k] = new Fields();
            }
        }

        int count() {
            return count;
        }

        void keep(int region, Fields fields) {
            latest = latest + 1 < MOST_CHANGES ? latest + 1 : 0;
            count = Math.min(count + 1, MOST_CHANGES);
            if (isAt(latest)) {
                kept[latest].copy(fields);
                keptRegions[latest] = region;
            }
        }

        int latestRegion() {
            return count > 0 && isAt(latest) ? keptRegions[latest] : -1;
        }

        void takeBack(Fields fields) {
            if (count > 0 && isAt(latest)) {
                fields.copy(kept[latest]);
                latest = latest > 0 ? latest - 1 : MOST_CHANGES - 1;
                count--;
            }
        }

        private boolean isAt(int at) {
            return at >= 0 && at < kept.length && at < keptRegions.length;
        }
    }

    /** Finds fields that hang together. */
    private static final class Flood {
        private final Fields rest = new Fields();
        private final Fields found = new Fields();
        private int low;
        private int high;

        int countPieces(Fields region) {
            rest.copy(region);
            return countParts(false);
        }

        int countHoles(Fields region) {
            findHoles(region);
            return countParts(true);
        }

        int fillHoles(Fields region) {
            findHoles(region);
            region.unite(rest);
            return countParts(true);
        }

        void leavePiece(Fields region, int x, int y) {
            rest.copy(region);
            found.empty();
            if (rest.holds(x, y)) {
                take(x, y, false);
            }
            region.copy(found);
        }

        /** Leaves in the rest what is not in the region, and not to be reached from beyond the limits. */
        private void findHoles(Fields region) {
            for (int y = LEAST; y <= GREATEST; y++) {
                boolean isEnd = y == LEAST || y == GREATEST;
                long border = isEnd ? -1L : bit(LEAST) | bit(GREATEST);
                rest.putRow(y, ~region.row(y));
                found.putRow(y, ~region.row(y) & border);
            }
            low = LEAST;
            high = GREATEST;
            spread(true);
            removeFound();
        }

        private int countParts(boolean byPoints) {
            int count = 0;
            for (int y = LEAST; y <= GREATEST; y++) {
                for (int k = 0; k < SIZE && rest.row(y) != 0; k++) {
                    take(LEAST + lowestBit(rest.row(y)), y, byPoints);
                    count++;
                }
            }
            return count;
        }

        private void take(int x, int y, boolean byPoints) {
            found.empty();
            found.add(x, y);
            low = y;
            high = y;
            spread(byPoints);
            removeFound();
        }

        private void removeFound() {
            for (int y = low; y <= high; y++) {
                rest.putRow(y, rest.row(y) & ~found.row(y));
            }
        }

        private void spread(boolean byPoints) {
            boolean isMore = true;
            // Each round but the last finds a field at least.
            for (int round = 0; round <= SIZE * SIZE && isMore; round++) {
                isMore = false;
                for (int y = low; y <= GREATEST && y <= high + 1; y++) {
                    isMore |= spreadInto(y, byPoints);
                }
                for (int y = high; y >= LEAST && y >= low - 1; y--) {
                    isMore |= spreadInto(y, byPoints);
                }
            }
        }

        private boolean spreadInto(int y, boolean byPoints) {
            long ends = found.row(y - 1) | found.row(y + 1);
            if (byPoints) {
                ends |= ends << 1 | ends >>> 1;
            }
            long open = rest.row(y);
            long ahead = found.row(y);
            long now = along(open & (ahead | ends), open);
            if (now == ahead) {
                return false;
            }
            found.putRow(y, now);
            low = Math.min(low, y);
            high = Math.max(high, y);
            return true;
        }

        /** The runs of open fields that have one of some; each step goes twice as far as the one ahead. */
        private static long along(long some, long open) {
            long right = some;
            long openRight = open;
            long left = some;
            long openLeft = open;
            for (int by = 1; by < SIZE; by *= 2) {
                right |= openRight & right << by;
                openRight &= openRight << by;
                left |= openLeft & left >>> by;
                openLeft &= openLeft >>> by;
            }
            return right | left;
        }
    }

    /**
     * Walks along the contours of a region, in their order. An edge is told by the field to its left, and by the way
     * that it goes: the field's lower side goes to the right, its right side upwards, and so on.
     */
    private static final class Outline {
        private static final int RIGHT = 0;
        private static final int UP = 1;
        private static final int LEFT = 2;
        private static final int DOWN = 3;

        private final Fields region = new Fields();
        // No more marks are needed: an edge that leaves a contour's lowest, leftmost corner goes to the right or upwards.
        private final Fields walkedRight = new Fields();
        private final Fields walkedUp = new Fields();
        private int fromY;

        private int x;
        private int y;
        private int way;

        private int cornerCount;
        private int areaAround;
        private int wanted;
        private int wantedX;
        private int wantedY;

        int cornerCount() {
            return cornerCount;
        }

        int areaAround() {
            return areaAround;
        }

        int wantedX() {
            return wantedX;
        }

        int wantedY() {
            return wantedY;
        }

        int countContours(Fields of) {
            begin(of);
            int count = 0;
            while (count < MOST_EDGES && next(0)) {
                count++;
            }
            return count;
        }

        /** Walks as far as a contour; answers whether there is one of this number. */
        boolean goTo(Fields of, int contour, int corner) {
            begin(of);
            boolean isThere = contour >= 0;
            for (int k = 0; k <= contour && k < MOST_EDGES && isThere; k++) {
                isThere = next(corner);
            }
            return isThere && contour < MOST_EDGES;
        }

        void begin(Fields of) {
            region.copy(of);
            walkedRight.empty();
            walkedUp.empty();
            fromY = LEAST;
        }

        /** Walks along the next contour, and notes one corner's place; answers whether there was a contour. */
        boolean next(int corner) {
            wanted = corner;
            for (; fromY <= GREATEST; fromY++) {
                long row = region.row(fromY);
                long right = row & ~region.row(fromY - 1) & ~walkedRight.row(fromY);
                long up = row & ~(row >>> 1) & ~walkedUp.row(fromY);
                if ((right | up) != 0) {
                    beginAt(lowestBit(right), lowestBit(up));
                    walk();
                    return true;
                }
            }
            return false;
        }

        /** An edge upwards leaves a point at the right of its field, so of two in one column the lower side's is ahead. */
        private void beginAt(int right, int up) {
            way = right <= up ? RIGHT : UP;
            x = LEAST + Math.min(right, up);
            y = fromY;
        }

        private void walk() {
            int firstX = x;
            int firstY = y;
            int firstWay = way;
            cornerCount = 0;
            areaAround = 0;
            noteCorner();
            for (int k = 0; k < MOST_EDGES; k++) {
                noteEdge();
                int ahead = way;
                goOn();
                if (x == firstX && y == firstY && way == firstWay) {
                    return;
                }
                if (way != ahead) {
                    noteCorner();
                }
            }
        }

        /** The corner is where the edge begins. */
        private void noteCorner() {
            if (cornerCount == wanted) {
                wantedX = way == UP || way == LEFT ? x + 1 : x;
                wantedY = way == LEFT || way == DOWN ? y + 1 : y;
            }
            cornerCount++;
        }

        private void noteEdge() {
            switch (way) {
                case RIGHT:
                    walkedRight.add(x, y);
                    break;
                case UP:
                    walkedUp.add(x, y);
                    areaAround += x + 1;
                    break;
                case DOWN:
                    areaAround -= x;
                    break;
                default:
                    break;
            }
        }

        private void goOn() {
            int stepX = way == RIGHT ? 1 : way == LEFT ? -1 : 0;
            int stepY = way == UP ? 1 : way == DOWN ? -1 : 0;
            // Turning left comes first: it stays at the same field.
            if (!region.holds(x + stepX, y + stepY)) {
                way = way + 1 & 3;
                return;
            }
            x += stepX;
            y += stepY;
            // The step to the right of (stepX, stepY) is (stepY, -stepX).
            if (region.holds(x + stepY, y - stepX)) {
                x += stepY;
                y -= stepX;
                way = way + 3 & 3;
            }
        }
    }

    /** Goes through the strips of a region, in their order. */
    private static final class StripWalk {
        private final Fields region = new Fields();
        private int fromY;
        private long toCome;

        private int x;
        private int y;
        private int width;
        private int height;

        int measure(int what) {
            switch (what) {
                case 0:
                    return x;
                case 1:
                    return y;
                case 2:
                    return width;
                default:
                    return height;
            }
        }

        int countStrips(Fields of) {
            begin(of);
            int count = 0;
            while (count < MOST_EDGES && next()) {
                count++;
            }
            return count;
        }

        /** Goes as far as a strip; answers whether there is one of this number. */
        boolean goTo(Fields of, int strip) {
            begin(of);
            boolean isThere = strip >= 0;
            for (int k = 0; k <= strip && k < MOST_EDGES && isThere; k++) {
                isThere = next();
            }
            return isThere && strip < MOST_EDGES;
        }

        void begin(Fields of) {
            region.copy(of);
            fromY = LEAST;
            toCome = region.row(fromY);
        }

        boolean next() {
            while (fromY <= GREATEST) {
                for (int k = 0; k < SIZE && toCome != 0; k++) {
                    long run = firstRun(toCome);
                    toCome &= ~run;
                    if (!isRunAt(fromY - 1, run)) {
                        take(run);
                        return true;
                    }
                }
                fromY++;
                toCome = region.row(fromY);
            }
            return false;
        }

        private void take(long run) {
            x = LEAST + lowestBit(run);
            y = fromY;
            width = Long.bitCount(run);
            height = 1;
            while (height < SIZE && isRunAt(fromY + height, run)) {
                height++;
            }
        }

        private boolean isRunAt(int at, long run) {
            return (region.row(at) & (run | run << 1 | run >>> 1)) == run;
        }

        /** Adding the lowest bit carries through the first run, and through no other bit. */
        private static long firstRun(long row) {
            return row & ~(row + (row & -row));
        }
    }
}
