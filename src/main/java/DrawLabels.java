/**
 * A desk that draws figures on a sheet and places labels beside them.
 *
 * All rows are made with the desk and used again by every call, because what
 * a run of calls makes is counted; no call makes an object.
 */
public final class DrawLabels {
    public static final int NONE = -1, UNKNOWN = -100001, OUTSIDE = -100002, NOT = -100003, FULL = -100004;

    private static final int DOT = 0, PIECE = 1, LINE = 2, RAY = 3, CIRCLE = 4, ANGLE = 5, TICKS = 6, AREA = 7;
    private static final int ALL_SOLIDS = 8, EDGES_BEHIND = 9, KINDS = 10;
    private static final int DONE = 0, NOTHING = 1, OTHER_KIND = 2, NO_PLACE = 3, BELOW_NONE = 4, BY_ZERO = 6;

    private final Points points;
    private final Figures figures;
    private final Sheet sheet;
    private final Solids solids;
    private final Marks marks;
    private final Plotter plotter;
    private final Placer placer;
    private final Groups groups;
    private int code;

    public DrawLabels() {
        Points newPoints = new Points();
        Figures newFigures = new Figures(newPoints);
        Sheet newSheet = new Sheet();
        Solids newSolids = new Solids(newPoints);
        Marks newMarks = new Marks();
        Plotter newPlotter = new Plotter(newFigures, newSheet, newSolids, newMarks);
        points = newPoints;
        figures = newFigures;
        sheet = newSheet;
        solids = newSolids;
        marks = newMarks;
        plotter = newPlotter;
        placer = new Placer(newPlotter, newSheet, newMarks);
        groups = new Groups(newFigures);
        code = DONE;
    }

    // ---- points, objects

    public int point(int x, int y) {
        if (!within(x, -20000, 20000) || !within(y, -20000, 20000)) {
            return OUTSIDE;
        }
        return points.add(x, y);
    }

    public int move(int p, int u, int v) {
        if (!points.has(p)) {
            return UNKNOWN;
        }
        if (!within(u, -100, 100) || !within(v, -100, 100)) {
            return OUTSIDE;
        }
        points.u[p] = u;
        points.v[p] = v;
        return 1;
    }

    public int tick(int t) {
        if (!within(t, 0, 100)) {
            return OUTSIDE;
        }
        int before = points.now;
        points.now = t;
        return before;
    }

    public int at(int p, int axis) {
        if (!points.has(p)) {
            return UNKNOWN;
        }
        if (!within(axis, 0, 1)) {
            return OUTSIDE;
        }
        return axis == 0 ? points.nowX(p) : points.nowY(p);
    }

    public int object(int kind, int a, int b, int c) {
        boolean hasSecond = within(kind, PIECE, TICKS);
        if (!points.has(a) || hasSecond && !points.has(b) || kind == ANGLE && !points.has(c)) {
            return UNKNOWN;
        }
        if (!within(kind, DOT, TICKS) || kind == TICKS && !within(c, 1, 3)) {
            return OUTSIDE;
        }
        return figures.add(kind, a, b, c);
    }

    public int corner(int p) {
        if (!points.has(p)) {
            return UNKNOWN;
        }
        return figures.lengthenChain(p);
    }

    public int area() {
        return figures.addArea();
    }

    public int style(int o, int s) {
        if (!figures.has(o)) {
            return UNKNOWN;
        }
        if (!within(s, 0, 2)) {
            return OUTSIDE;
        }
        int before = figures.style[o];
        figures.style[o] = s;
        return before;
    }

    public int hide(int kind, boolean on) {
        if (!within(kind, 0, KINDS - 1)) {
            return OUTSIDE;
        }
        int before = figures.hidden[kind] ? 1 : 0;
        figures.hidden[kind] = on;
        return before;
    }

    public int fallen(int o) {
        if (!figures.has(o)) {
            return UNKNOWN;
        }
        return figures.isFallen(o) ? 1 : 0;
    }

    public long measure(int o) {
        if (!figures.has(o)) {
            return UNKNOWN;
        }
        return figures.kind[o] == AREA ? figures.twiceArea(o) : 0;
    }

    // ---- window, sheet

    public int window(int left, int right, int bottom, int top) {
        boolean inside = within(left, -40000, 40000) && within(right, -40000, 40000)
                && within(bottom, -40000, 40000) && within(top, -40000, 40000);
        if (!inside || left > right || bottom > top) {
            return OUTSIDE;
        }
        sheet.setWindow(left, right, bottom, top);
        return 1;
    }

    public int fit() {
        int fitted = 0;
        int left = 0;
        int right = 0;
        int bottom = 0;
        int top = 0;
        for (int o = 0; o < figures.count; o++) {
            if (figures.isHidden(o)) {
                continue;
            }
            for (int i = 0; i < figures.corners[o]; i++) {
                int x = figures.nowX(o, i);
                int y = figures.nowY(o, i);
                boolean first = fitted == 0 && i == 0;
                left = first ? x : Math.min(left, x);
                right = first ? x : Math.max(right, x);
                bottom = first ? y : Math.min(bottom, y);
                top = first ? y : Math.max(top, y);
            }
            fitted++;
        }
        if (fitted == 0) {
            return NOT;
        }
        sheet.setWindow(left, right, bottom, top);
        return fitted;
    }

    public int side(int what) {
        switch (what) {
            case 0:
                return sheet.left;
            case 1:
                return sheet.right;
            case 2:
                return sheet.bottom;
            case 3:
                return sheet.top;
            default:
                return OUTSIDE;
        }
    }

    public int sheet(int w, int h, int margin) {
        if (!within(w, 16, 400) || !within(h, 16, 400) || !within(margin, 0, 7)) {
            return OUTSIDE;
        }
        sheet.setSheet(w, h, margin);
        return 1;
    }

    public int grid(int g) {
        if (!within(g, 0, 40000)) {
            return OUTSIDE;
        }
        int before = sheet.gridStep;
        sheet.gridStep = g;
        return before;
    }

    public int hatch(int h) {
        if (!within(h, 10, 1000)) {
            return OUTSIDE;
        }
        int before = sheet.hatchStep;
        sheet.hatchStep = h;
        return before;
    }

    public int scale(boolean up) {
        if (!sheet.hasScale()) {
            return fail(BY_ZERO);
        }
        code = DONE;
        return up ? sheet.up : sheet.down;
    }

    public float single(int p, int what) {
        if (!points.has(p)) {
            return (float) UNKNOWN;
        }
        if (!within(what, 0, 2)) {
            return (float) OUTSIDE;
        }
        if (what < 2 && !sheet.hasScale()) {
            return (float) fail(BY_ZERO);
        }
        code = DONE;
        if (what == 2) {
            return (float) points.squareFromBefore(p);
        }
        long above = what == 0 ? sheet.exactX(points.nowX(p)) : sheet.exactY(points.nowY(p));
        long below = 2L * sheet.down;
        long common = commonDivisor(Math.abs(above), below);
        if (common < 1) {
            return 0f;
        }
        return (float) (above / common) / (float) (below / common);
    }

    // ---- solids

    public int solid(int p, int m) {
        if (!points.has(p)) {
            return UNKNOWN;
        }
        if (!within(m, 1, 50)) {
            return OUTSIDE;
        }
        return solids.add(p, m);
    }

    public int vertex(int s, int x, int y, int z) {
        if (!solids.has(s)) {
            return UNKNOWN;
        }
        if (!within(x, -100, 100) || !within(y, -100, 100) || !within(z, -100, 100)) {
            return OUTSIDE;
        }
        return solids.addVertex(s, x, y, z);
    }

    public int face(int s, int n, int v) {
        if (!solids.has(s)) {
            return UNKNOWN;
        }
        if (!within(n, 3, 6)) {
            return OUTSIDE;
        }
        return solids.addFace(s, n, v);
    }

    public int view(int k) {
        if (!within(k, 0, 4)) {
            return OUTSIDE;
        }
        int before = solids.view;
        solids.view = k;
        return before;
    }

    public int edge(int s, int k, int what) {
        if (!solids.has(s)) {
            return UNKNOWN;
        }
        if (k == -1) {
            return solids.edgeCount(s);
        }
        if (!solids.findEdge(s, k)) {
            return UNKNOWN;
        }
        switch (what) {
            case 0:
                return solids.foundLesser;
            case 1:
                return solids.foundGreater;
            case 2:
                solids.lookAt(s);
                return solids.isBehind(solids.foundLesser, solids.foundGreater) ? 1 : 0;
            case 3:
                return solids.facesAt(s, solids.foundLesser, solids.foundGreater);
            default:
                return OUTSIDE;
        }
    }

    // ---- drawings

    public int label(int o, int n) {
        if (!figures.has(o)) {
            return UNKNOWN;
        }
        if (!within(n, 1, 8)) {
            return OUTSIDE;
        }
        return placer.add(o, n);
    }

    public int draw() {
        plotter.plotAll();
        placer.placeAll();
        marks.finish();
        if (!sheet.hasScale()) {
            return fail(BY_ZERO);
        }
        code = DONE;
        return marks.count;
    }

    public int mark(int k, int what) {
        if (!within(k, 0, marks.count - 1)) {
            return UNKNOWN;
        }
        if (!within(what, 0, 6)) {
            return OUTSIDE;
        }
        return what < Marks.WIDE ? marks.cellOf(k, what) : 0;
    }

    public int placed(int l) {
        if (!within(l, 0, placer.count - 1)) {
            return UNKNOWN;
        }
        return l < placer.drawn ? placer.place[l] : NONE;
    }

    public int octet(int k) {
        return marks.octetAt(k);
    }

    public int digest() {
        return marks.digest;
    }

    public int count(int what) {
        switch (what) {
            case 0:
                return points.count;
            case 1:
                return figures.count;
            case 2:
                return solids.count;
            case 3:
                return placer.count;
            case 4:
                return points.now;
            case 5:
                return solids.view;
            case 6:
                return marks.count;
            case 7:
                return marks.lost;
            case 8:
                return marks.octetCount();
            case 9:
                return placer.outCount;
            case 10:
                return placer.costSum;
            case 11:
                return placer.rounds;
            default:
                return OUTSIDE;
        }
    }

    // ---- groups

    public int code() {
        return code;
    }

    public int group(int g, int kind, int n) {
        if (!groups.inRange(g) || !within(kind, 0, Groups.ANY_KIND) || n > Groups.MOST_PLACES) {
            return OUTSIDE;
        }
        if (n < 0) {
            return fail(BELOW_NONE);
        }
        groups.make(g, kind, n);
        code = DONE;
        return n;
    }

    public int put(int g, int i, int o) {
        if (o != NONE && !figures.has(o)) {
            return UNKNOWN;
        }
        if (!groups.inRange(g)) {
            return OUTSIDE;
        }
        int wrong = groups.wrongPlace(g, i);
        if (wrong != DONE) {
            return fail(wrong);
        }
        if (!groups.takes(g, o)) {
            return fail(OTHER_KIND);
        }
        groups.setMember(g, i, o);
        code = DONE;
        return 1;
    }

    public int member(int g, int i) {
        if (!groups.inRange(g)) {
            return OUTSIDE;
        }
        int wrong = groups.wrongPlace(g, i);
        if (wrong != DONE) {
            return fail(wrong);
        }
        int found = groups.memberAt(g, i);
        if (found == NONE) {
            return fail(NOTHING);
        }
        code = DONE;
        return found;
    }

    public int paint(int g, int s) {
        if (!groups.inRange(g) || !within(s, 0, 2)) {
            return OUTSIDE;
        }
        if (!groups.isMade(g)) {
            return fail(NOTHING);
        }
        int places = groups.places[g];
        for (int i = 0; i < places; i++) {
            int o = groups.memberAt(g, i);
            if (!figures.has(o)) {
                return fail(NOTHING);
            }
            figures.style[o] = s;
        }
        code = DONE;
        return places;
    }

    public long reach(int o) {
        if (!figures.has(o)) {
            return UNKNOWN;
        }
        if (figures.kind[o] != CIRCLE) {
            return fail(OTHER_KIND);
        }
        code = DONE;
        return figures.squareAcross(o);
    }

    private int fail(int newCode) {
        code = newCode;
        return 0;
    }

    // ---- numbers

    private static boolean within(int number, int low, int high) {
        return number >= low && number <= high;
    }

    private static long commonDivisor(long a, long b) {
        long larger = a;
        long smaller = b;
        // Numbers below 2^63 need fewer than 100 steps.
        for (int step = 0; step < 100 && smaller != 0; step++) {
            long rest = larger % smaller;
            larger = smaller;
            smaller = rest;
        }
        return larger;
    }

    private static long rootDown(long square) {
        long root = 0;
        for (long bit = 1L << 30; bit > 0; bit >>= 1) {
            long tried = root + bit;
            if (tried * tried <= square) {
                root = tried;
            }
        }
        return root;
    }

    private static int octantOf(int dx, int dy) {
        if (dx > 0 && dy >= 0) {
            return dy < dx ? 0 : 1;
        }
        if (dx <= 0 && dy > 0) {
            return -dx < dy ? 2 : 3;
        }
        if (dx < 0) {
            return -dy < -dx ? 4 : 5;
        }
        return dx < -dy ? 6 : 7;
    }

    private static final class Points {
        private static final int MOST = 60;

        final int[] x = new int[MOST];
        final int[] y = new int[MOST];
        final int[] u = new int[MOST];
        final int[] v = new int[MOST];
        int count;
        int now;

        Points() {
            count = 0;
            now = 0;
        }

        boolean has(int p) {
            return p >= 0 && p < count;
        }

        int add(int newX, int newY) {
            if (count >= MOST) {
                return FULL;
            }
            x[count] = newX;
            y[count] = newY;
            count++;
            return count - 1;
        }

        int nowX(int p) {
            return p >= 0 && p < count ? x[p] + now * u[p] : 0;
        }

        int nowY(int p) {
            return p >= 0 && p < count ? y[p] + now * v[p] : 0;
        }

        long squareFromBefore(int p) {
            // A point that there is not stands at 0, 0, which is what point 0 is told from.
            return squareBetween(p - 1, p);
        }

        long squareBetween(int p, int q) {
            long dx = nowX(q) - nowX(p);
            long dy = nowY(q) - nowY(p);
            return dx * dx + dy * dy;
        }
    }

    /** The objects on points, and the chain that the next area is made of. */
    private static final class Figures {
        static final int MOST = 40;
        static final int MOST_CORNERS = 12;

        final Points points;
        final int[] kind = new int[MOST];
        final int[] style = new int[MOST];
        final int[] strokes = new int[MOST];
        final int[] corners = new int[MOST];
        final int[] corner = new int[MOST * MOST_CORNERS];
        final boolean[] hidden = new boolean[KINDS];
        final int[] chain = new int[MOST_CORNERS];
        int chainLength;
        int count;

        Figures(Points allPoints) {
            points = allPoints;
            chainLength = 0;
            count = 0;
        }

        boolean has(int o) {
            return o >= 0 && o < count;
        }

        int add(int newKind, int a, int b, int c) {
            if (count >= MOST) {
                return FULL;
            }
            int first = count * MOST_CORNERS;
            kind[count] = newKind;
            corners[count] = newKind == DOT ? 1 : newKind == ANGLE ? 3 : 2;
            strokes[count] = c;
            corner[first] = a;
            corner[first + 1] = b;
            corner[first + 2] = c;
            count++;
            return count - 1;
        }

        int lengthenChain(int p) {
            if (chainLength >= MOST_CORNERS) {
                return FULL;
            }
            chain[chainLength] = p;
            chainLength++;
            return chainLength;
        }

        int addArea() {
            if (chainLength < 3) {
                return NOT;
            }
            if (count >= MOST) {
                return FULL;
            }
            kind[count] = AREA;
            corners[count] = chainLength;
            for (int i = 0; i < chainLength && i < MOST_CORNERS; i++) {
                corner[count * MOST_CORNERS + i] = chain[i];
            }
            chainLength = 0;
            count++;
            return count - 1;
        }

        int cornerOf(int o, int i) {
            boolean inside = o >= 0 && o < count && i >= 0 && i < MOST_CORNERS;
            return inside ? corner[o * MOST_CORNERS + i] : NONE;
        }

        int nowX(int o, int i) {
            return points.nowX(cornerOf(o, i));
        }

        int nowY(int o, int i) {
            return points.nowY(cornerOf(o, i));
        }

        boolean isHidden(int o) {
            return within(kind[o], 0, KINDS - 1) && hidden[kind[o]];
        }

        boolean isFallen(int o) {
            switch (kind[o]) {
                case DOT:
                    return false;
                case ANGLE:
                    return together(o, 0, 1) || together(o, 2, 1);
                case AREA:
                    return twiceArea(o) == 0;
                default:
                    return together(o, 0, 1);
            }
        }

        private boolean together(int o, int i, int j) {
            return nowX(o, i) == nowX(o, j) && nowY(o, i) == nowY(o, j);
        }

        long twiceArea(int o) {
            long sum = 0;
            int last = corners[o] - 1;
            long px = nowX(o, last);
            long py = nowY(o, last);
            for (int i = 0; i <= last; i++) {
                long qx = nowX(o, i);
                long qy = nowY(o, i);
                sum += px * qy - qx * py;
                px = qx;
                py = qy;
            }
            return sum;
        }

        long squareAcross(int o) {
            return points.squareBetween(cornerOf(o, 0), cornerOf(o, 1));
        }
    }

    /** The window, the sheet, and the scale that fits the one into the other. */
    private static final class Sheet {
        int left;
        int right;
        int bottom;
        int top;
        int width;
        int height;
        int margin;
        int gridStep;
        int hatchStep;
        int up;
        int down;

        Sheet() {
            left = 0;
            right = 100;
            bottom = 0;
            top = 100;
            width = 100;
            height = 100;
            margin = 0;
            gridStep = 0;
            hatchStep = 10;
            up = 1;
            down = 1;
        }

        void setWindow(int newLeft, int newRight, int newBottom, int newTop) {
            left = newLeft;
            right = newRight;
            bottom = newBottom;
            top = newTop;
            rescale();
        }

        void setSheet(int newWidth, int newHeight, int newMargin) {
            width = newWidth;
            height = newHeight;
            margin = newMargin;
            rescale();
        }

        private void rescale() {
            long across = right - left;
            long high = top - bottom;
            long roomAcross = width - 2 * margin;
            long roomHigh = height - 2 * margin;
            up = 0;
            down = 0;
            if (across < 1 || high < 1) {
                return;
            }
            boolean byWidth = roomAcross * high <= roomHigh * across;
            long above = byWidth ? roomAcross : roomHigh;
            long below = byWidth ? across : high;
            long common = commonDivisor(above, below);
            if (common < 1) {
                return;
            }
            up = (int) (above / common);
            down = (int) (below / common);
        }

        boolean hasScale() {
            return down > 0;
        }

        boolean hasPlace(int x, int y) {
            return within(x, left, right) && within(y, bottom, top);
        }

        boolean hasMiddle(int twiceX, int twiceY) {
            return within(twiceX, 2 * left, 2 * right) && within(twiceY, 2 * bottom, 2 * top);
        }

        /** The exact X of a whole x, times 2 down. */
        long exactX(int x) {
            return (long) width * down + (2L * x - left - right) * up;
        }

        /** The exact Y of a whole y, times 2 down. */
        long exactY(int y) {
            return (long) height * down - (2L * y - bottom - top) * up;
        }

        /** The X of the x above / below, rounded once, a half up. */
        int sheetX(long above, long below) {
            long half = below * down;
            if (half < 1) {
                return 0;
            }
            long offset = (2 * above - below * (left + right)) * up;
            return (int) Math.floorDiv(width * half + offset + half, 2 * half);
        }

        /** The Y of the y above / below, rounded once, a half up. */
        int sheetY(long above, long below) {
            long half = below * down;
            if (half < 1) {
                return 0;
            }
            long offset = (below * (bottom + top) - 2 * above) * up;
            return (int) Math.floorDiv(height * half + offset + half, 2 * half);
        }

        int sheetRadius(long square) {
            long below = (long) down * down;
            if (below < 1) {
                return 0;
            }
            // The radius taken twice, rounded down, is enough to tell on which side of a half it lies.
            long twice = rootDown(4 * square * up * up / below);
            return (int) ((twice + 1) / 2);
        }
    }

    /** Cuts a straight way at the window; its ends are shares of the way, kept as fractions. */
    private static final class Clip {
        // Beyond every share of a way at which a line can leave the window.
        private static final long FAR = 1000000;

        final Sheet sheet;
        private long fromAbove;
        private long fromBelow;
        private long toAbove;
        private long toBelow;
        int fromX;
        int fromY;
        int toX;
        int toY;

        Clip(Sheet theSheet) {
            sheet = theSheet;
        }

        /** Whether the window has any of the way; where its ends are on the sheet, if so. */
        boolean cut(int kind, int ax, int ay, int bx, int by) {
            fromAbove = kind == LINE ? -FAR : 0;
            fromBelow = 1;
            toAbove = kind == PIECE ? 1 : FAR;
            toBelow = 1;
            long dx = bx - ax;
            long dy = by - ay;
            if (!narrow(dx, sheet.left - ax, sheet.right - ax) || !narrow(dy, sheet.bottom - ay, sheet.top - ay)) {
                return false;
            }
            fromX = sheet.sheetX(ax * fromBelow + dx * fromAbove, fromBelow);
            fromY = sheet.sheetY(ay * fromBelow + dy * fromAbove, fromBelow);
            toX = sheet.sheetX(ax * toBelow + dx * toAbove, toBelow);
            toY = sheet.sheetY(ay * toBelow + dy * toAbove, toBelow);
            return true;
        }

        private boolean narrow(long way, long low, long high) {
            if (way == 0) {
                return low <= 0 && high >= 0;
            }
            if (way > 0) {
                raiseFrom(low, way);
                lowerTo(high, way);
            } else {
                raiseFrom(-high, -way);
                lowerTo(-low, -way);
            }
            return fromAbove * toBelow <= toAbove * fromBelow;
        }

        private void raiseFrom(long above, long below) {
            if (above * fromBelow > fromAbove * below) {
                fromAbove = above;
                fromBelow = below;
            }
        }

        private void lowerTo(long above, long below) {
            if (above * toBelow < toAbove * below) {
                toAbove = above;
                toBelow = below;
            }
        }
    }

    private static final class Solids {
        static final int MOST = 4;
        static final int MOST_VERTICES = 12;
        static final int MOST_FACES = 10;
        static final int MOST_SIDES = 6;
        private static final int PAIRS = MOST_VERTICES * (MOST_VERTICES - 1) / 2;

        // For each view what x, y, z count towards p, towards q, and the way to the eye.
        private static final int[] TO_P = {1, 0, 0, 1, 0, 0, 0, 0, -1, 2, 0, -1, 1, 0, -1};
        private static final int[] TO_Q = {0, 1, 0, 0, 0, -1, 0, 1, 0, 0, 2, -1, -1, 2, -1};
        private static final int[] EYE = {0, 0, 1, 0, 1, 0, 1, 0, 0, 1, 1, 2, 1, 1, 1};

        final Points points;
        final int[] base = new int[MOST];
        final int[] times = new int[MOST];
        final int[] vertices = new int[MOST];
        final int[] x = new int[MOST * MOST_VERTICES];
        final int[] y = new int[MOST * MOST_VERTICES];
        final int[] z = new int[MOST * MOST_VERTICES];
        final int[] faces = new int[MOST];
        final int[] sides = new int[MOST * MOST_FACES];
        final int[] ring = new int[MOST * MOST_FACES * MOST_SIDES];
        final int[] joined = new int[MOST * PAIRS];
        final boolean[] inFront = new boolean[PAIRS];
        int count;
        int view;
        int foundLesser;
        int foundGreater;

        Solids(Points allPoints) {
            points = allPoints;
            count = 0;
            view = 0;
        }

        boolean has(int s) {
            return s >= 0 && s < count;
        }

        int add(int p, int m) {
            if (count >= MOST) {
                return FULL;
            }
            base[count] = p;
            times[count] = m;
            count++;
            return count - 1;
        }

        int addVertex(int s, int newX, int newY, int newZ) {
            if (vertices[s] >= MOST_VERTICES) {
                return FULL;
            }
            int k = s * MOST_VERTICES + vertices[s];
            x[k] = newX;
            y[k] = newY;
            z[k] = newZ;
            vertices[s]++;
            return vertices[s] - 1;
        }

        int addFace(int s, int n, int packed) {
            boolean twice = false;
            int met = 0;
            for (int i = 0; i < n; i++) {
                int k = unpacked(packed, i);
                if (k >= vertices[s]) {
                    return UNKNOWN;
                }
                twice = twice || (met >> k & 1) == 1;
                met |= 1 << k;
            }
            if (twice) {
                return NOT;
            }
            if (faces[s] >= MOST_FACES) {
                return FULL;
            }
            int f = s * MOST_FACES + faces[s];
            sides[f] = n;
            for (int i = 0; i < n && i < MOST_SIDES; i++) {
                ring[f * MOST_SIDES + i] = unpacked(packed, i);
            }
            for (int i = 0; i < n; i++) {
                joined[s * PAIRS + pairOf(ringAt(f, i), ringAt(f, i + 1))]++;
            }
            faces[s]++;
            return faces[s];
        }

        private static int unpacked(int packed, int i) {
            return packed >>> 4 * i & 15;
        }

        /** Vertex i of face f; behind the last one comes the first one again. */
        private int ringAt(int f, int i) {
            int k = i < sides[f] ? i : 0;
            return ring[f * MOST_SIDES + k];
        }

        private static int pairOf(int a, int b) {
            int lesser = Math.min(a, b);
            int greater = Math.max(a, b);
            return greater * (greater - 1) / 2 + lesser;
        }

        int facesAt(int s, int a, int b) {
            return joined[s * PAIRS + pairOf(a, b)];
        }

        int edgeCount(int s) {
            int edges = 0;
            for (int i = 0; i < PAIRS; i++) {
                edges += joined[s * PAIRS + i] > 0 ? 1 : 0;
            }
            return edges;
        }

        boolean findEdge(int s, int k) {
            int ahead = 0;
            for (int a = 0; a < vertices[s]; a++) {
                for (int b = a + 1; b < vertices[s]; b++) {
                    if (facesAt(s, a, b) == 0) {
                        continue;
                    }
                    if (ahead == k) {
                        foundLesser = a;
                        foundGreater = b;
                        return true;
                    }
                    ahead++;
                }
            }
            return false;
        }

        /** Notes which edges of a solid are in a face that is seen; isBehind tells of this solid from then on. */
        void lookAt(int s) {
            for (int i = 0; i < PAIRS; i++) {
                inFront[i] = false;
            }
            for (int k = 0; k < faces[s]; k++) {
                int f = s * MOST_FACES + k;
                if (!isSeen(s, f)) {
                    continue;
                }
                for (int i = 0; i < sides[f]; i++) {
                    inFront[pairOf(ringAt(f, i), ringAt(f, i + 1))] = true;
                }
            }
        }

        boolean isBehind(int a, int b) {
            return !inFront[pairOf(a, b)];
        }

        private boolean isSeen(int s, int f) {
            int a = s * MOST_VERTICES + ringAt(f, 0);
            int b = s * MOST_VERTICES + ringAt(f, 1);
            int c = s * MOST_VERTICES + ringAt(f, 2);
            int ux = x[b] - x[a];
            int uy = y[b] - y[a];
            int uz = z[b] - z[a];
            int vx = x[c] - x[a];
            int vy = y[c] - y[a];
            int vz = z[c] - z[a];
            int towards = (uy * vz - uz * vy) * EYE[3 * view]
                    + (uz * vx - ux * vz) * EYE[3 * view + 1]
                    + (ux * vy - uy * vx) * EYE[3 * view + 2];
            return towards > 0;
        }

        int nowX(int s, int k) {
            return points.nowX(base[s]) + times[s] * seenAs(TO_P, s * MOST_VERTICES + k);
        }

        int nowY(int s, int k) {
            return points.nowY(base[s]) + times[s] * seenAs(TO_Q, s * MOST_VERTICES + k);
        }

        private int seenAs(int[] parts, int k) {
            return parts[3 * view] * x[k] + parts[3 * view + 1] * y[k] + parts[3 * view + 2] * z[k];
        }
    }

    /** The marks of the drawing, and their octets. */
    private static final class Marks {
        static final int MOST = 600;
        // A letter and the five numbers that a mark has at most.
        static final int WIDE = 6;
        // A letter, five numbers of at most eleven octets behind a blank each, and the end.
        private static final int LONGEST = 62;

        final int[] cell = new int[MOST * WIDE];
        final int[] start = new int[MOST + 1];
        final int[] text = new int[LONGEST];
        int textLength;
        int count;
        int lost;
        int digest;

        Marks() {
            count = 0;
            lost = 0;
            digest = 17;
        }

        void clear() {
            count = 0;
            lost = 0;
            digest = 17;
        }

        int room() {
            return MOST - count;
        }

        void add(char letter, int a, int b, int c, int d, int e) {
            if (count >= MOST) {
                lost++;
                return;
            }
            int k = count * WIDE;
            cell[k] = letter;
            cell[k + 1] = a;
            cell[k + 2] = b;
            cell[k + 3] = c;
            cell[k + 4] = d;
            cell[k + 5] = e;
            count++;
        }

        /** Tells the octets of all marks, when no more are to come. */
        void finish() {
            for (int k = 0; k < count; k++) {
                writeMark(k);
                start[k + 1] = start[k] + textLength;
                for (int i = 0; i < textLength; i++) {
                    digest = 31 * digest + text[i];
                }
            }
        }

        int cellOf(int k, int i) {
            return cell[k * WIDE + i];
        }

        int octetCount() {
            return start[count];
        }

        int octetAt(int k) {
            if (k < 0 || k >= octetCount()) {
                return NONE;
            }
            int low = 0;
            int high = count - 1;
            for (int step = 0; step < MOST && low < high; step++) {
                int middle = (low + high + 1) / 2;
                if (start[middle] <= k) {
                    low = middle;
                } else {
                    high = middle - 1;
                }
            }
            writeMark(low);
            int i = k - start[low];
            return i >= 0 && i < textLength ? text[i] : NONE;
        }

        private static int numbersOf(int letter) {
            switch (letter) {
                case 'F':
                    return 2;
                case 'D':
                    return 3;
                case 'T':
                case 'W':
                    return 4;
                default:
                    return 5;
            }
        }

        private void writeMark(int k) {
            textLength = 0;
            addOctet(cellOf(k, 0));
            int numbers = numbersOf(cellOf(k, 0));
            for (int i = 1; i <= numbers; i++) {
                addOctet(' ');
                addNumber(cellOf(k, i));
            }
            addOctet('\n');
        }

        private void addOctet(int character) {
            if (textLength < LONGEST) {
                text[textLength] = character;
                textLength++;
            }
        }

        private void addNumber(int number) {
            long rest = number;
            if (rest < 0) {
                addOctet('-');
                rest = -rest;
            }
            long unit = 1;
            while (unit <= 1000000000L && unit * 10 <= rest) {
                unit *= 10;
            }
            for (; unit > 0; unit /= 10) {
                addOctet((int) ('0' + rest / unit % 10));
            }
        }
    }

    /** Draws grid, objects and solids into the marks, and keeps where labels are anchored. */
    private static final class Plotter {
        final Figures figures;
        final Sheet sheet;
        final Solids solids;
        final Marks marks;
        final Clip clip;
        final boolean[] shown = new boolean[Figures.MOST];
        final int[] anchorX = new int[Figures.MOST];
        final int[] anchorY = new int[Figures.MOST];
        final int[] cornerX = new int[Figures.MOST_CORNERS];
        final int[] cornerY = new int[Figures.MOST_CORNERS];
        final long[] meetAbove = new long[Figures.MOST_CORNERS];
        final long[] meetBelow = new long[Figures.MOST_CORNERS];
        int corners;
        int meets;

        Plotter(Figures allFigures, Sheet theSheet, Solids allSolids, Marks theMarks) {
            figures = allFigures;
            sheet = theSheet;
            solids = allSolids;
            marks = theMarks;
            clip = new Clip(theSheet);
        }

        void plotAll() {
            marks.clear();
            for (int o = 0; o < Figures.MOST; o++) {
                shown[o] = false;
            }
            marks.add('F', sheet.width, sheet.height, 0, 0, 0);
            if (!sheet.hasScale()) {
                return;
            }
            plotGrid();
            for (int o = 0; o < figures.count; o++) {
                if (figures.kind[o] == AREA && isDrawn(o)) {
                    plotArea(o);
                }
            }
            for (int o = 0; o < figures.count; o++) {
                if (figures.kind[o] != AREA && isDrawn(o)) {
                    plotObject(o);
                }
            }
            for (int s = 0; s < solids.count && !figures.hidden[ALL_SOLIDS]; s++) {
                plotSolid(s);
            }
        }

        private boolean isDrawn(int o) {
            return !figures.isHidden(o) && !figures.isFallen(o);
        }

        private void anchor(int o, int x, int y) {
            shown[o] = true;
            anchorX[o] = x;
            anchorY[o] = y;
        }

        private int wholeX(long x) {
            return sheet.sheetX(x, 1);
        }

        private int wholeY(long y) {
            return sheet.sheetY(y, 1);
        }

        private void plotGrid() {
            int step = sheet.gridStep;
            if (step < 1) {
                return;
            }
            int y1 = wholeY(sheet.bottom);
            int y2 = wholeY(sheet.top);
            int first = firstMultiple(step, sheet.left);
            int strokes = Math.floorDiv(sheet.right, step) - Math.floorDiv(first, step) + 1;
            int told = Math.min(strokes, marks.room());
            for (int i = 0; i < told; i++) {
                int x = wholeX(first + i * step);
                marks.add('S', x, y1, x, y2, 1);
            }
            // A fine grid has many more strokes than marks: those are counted without a way through them.
            marks.lost += strokes - told;
            int x1 = wholeX(sheet.left);
            int x2 = wholeX(sheet.right);
            first = firstMultiple(step, sheet.bottom);
            strokes = Math.floorDiv(sheet.top, step) - Math.floorDiv(first, step) + 1;
            told = Math.min(strokes, marks.room());
            for (int i = 0; i < told; i++) {
                int y = wholeY(first + i * step);
                marks.add('S', x1, y, x2, y, 1);
            }
            marks.lost += strokes - told;
        }

        private static int firstMultiple(int step, int low) {
            return step < 1 ? low : -Math.floorDiv(-low, step) * step;
        }

        private void plotArea(int o) {
            loadCorners(o);
            int step = sheet.hatchStep;
            if (step < 1 || corners < 1) {
                return;
            }
            int low = cornerY[0];
            int high = cornerY[0];
            long sumX = 0;
            long sumY = 0;
            for (int i = 0; i < corners; i++) {
                low = Math.min(low, cornerY[i]);
                high = Math.max(high, cornerY[i]);
                sumX += wholeX(cornerX[i]);
                sumY += wholeY(cornerY[i]);
            }
            anchor(o, (int) Math.floorDiv(sumX, (long) corners), (int) Math.floorDiv(sumY, (long) corners));
            // No side meets a y below all corners, nor the y of the highest ones.
            low = Math.max(low, sheet.bottom);
            high = Math.min(high - 1, sheet.top);
            for (int y = firstMultiple(step, low); y <= high; y += step) {
                findMeets(y);
                for (int i = 0; i + 1 < meets; i += 2) {
                    strokeBetween(i, y, figures.style[o]);
                }
            }
        }

        private void loadCorners(int o) {
            corners = Math.min(figures.corners[o], Figures.MOST_CORNERS);
            for (int i = 0; i < corners; i++) {
                cornerX[i] = figures.nowX(o, i);
                cornerY[i] = figures.nowY(o, i);
            }
        }

        private void findMeets(int y) {
            meets = 0;
            int p = corners - 1;
            for (int q = 0; q < corners; q++) {
                boolean upwards = cornerY[p] <= y && cornerY[q] > y;
                boolean downwards = cornerY[q] <= y && cornerY[p] > y;
                if (upwards) {
                    addMeet(p, q, y);
                } else if (downwards) {
                    addMeet(q, p, y);
                }
                p = q;
            }
        }

        /** Sorts in where the side from a lower corner to an upper one meets y. */
        private void addMeet(int lower, int upper, int y) {
            long below = cornerY[upper] - cornerY[lower];
            long dx = cornerX[upper] - cornerX[lower];
            long above = cornerX[lower] * below + dx * (y - cornerY[lower]);
            if (meets >= Figures.MOST_CORNERS) {
                return;
            }
            int i = meets;
            while (i > 0 && above * meetBelow[i - 1] < meetAbove[i - 1] * below) {
                meetAbove[i] = meetAbove[i - 1];
                meetBelow[i] = meetBelow[i - 1];
                i--;
            }
            meetAbove[i] = above;
            meetBelow[i] = below;
            meets++;
        }

        private void strokeBetween(int i, int y, int style) {
            long fromAbove = meetAbove[i];
            long fromBelow = meetBelow[i];
            long toAbove = meetAbove[i + 1];
            long toBelow = meetBelow[i + 1];
            if (fromAbove < sheet.left * fromBelow) {
                fromAbove = sheet.left;
                fromBelow = 1;
            }
            if (toAbove > sheet.right * toBelow) {
                toAbove = sheet.right;
                toBelow = 1;
            }
            if (fromAbove * toBelow <= toAbove * fromBelow) {
                int sheetY = wholeY(y);
                int fromX = sheet.sheetX(fromAbove, fromBelow);
                marks.add('S', fromX, sheetY, sheet.sheetX(toAbove, toBelow), sheetY, style);
            }
        }

        private void plotObject(int o) {
            switch (figures.kind[o]) {
                case DOT:
                    plotDot(o);
                    break;
                case PIECE:
                case LINE:
                case RAY:
                    plotStraight(o);
                    break;
                case CIRCLE:
                    plotCircle(o);
                    break;
                case ANGLE:
                    plotAngle(o);
                    break;
                case TICKS:
                    plotTicks(o);
                    break;
                default:
                    break;
            }
        }

        private void plotDot(int o) {
            int x = figures.nowX(o, 0);
            int y = figures.nowY(o, 0);
            if (sheet.hasPlace(x, y)) {
                anchor(o, wholeX(x), wholeY(y));
                marks.add('D', anchorX[o], anchorY[o], figures.style[o], 0, 0);
            }
        }

        private void plotStraight(int o) {
            boolean any = clip.cut(figures.kind[o], figures.nowX(o, 0), figures.nowY(o, 0),
                    figures.nowX(o, 1), figures.nowY(o, 1));
            if (any) {
                anchor(o, Math.floorDiv(clip.fromX + clip.toX, 2), Math.floorDiv(clip.fromY + clip.toY, 2));
                strokeCut(figures.style[o]);
            }
        }

        private void strokeCut(int style) {
            marks.add('S', clip.fromX, clip.fromY, clip.toX, clip.toY, style);
        }

        private void plotCircle(int o) {
            long x = figures.nowX(o, 0);
            long y = figures.nowY(o, 0);
            long square = figures.squareAcross(o);
            long nearX = Math.max(0, Math.max(sheet.left - x, x - sheet.right));
            long nearY = Math.max(0, Math.max(sheet.bottom - y, y - sheet.top));
            long farX = Math.max(x - sheet.left, sheet.right - x);
            long farY = Math.max(y - sheet.bottom, sheet.top - y);
            // The window is one piece, so its distances from the middle are all from the nearest to the farthest.
            if (nearX * nearX + nearY * nearY > square || farX * farX + farY * farY < square) {
                return;
            }
            long aside = Math.min(x - sheet.left, sheet.right - x);
            long ahead = Math.min(y - sheet.bottom, sheet.top - y);
            long least = Math.min(aside, ahead);
            int part = least >= 0 && least * least >= square ? 0 : 1;
            int radius = sheet.sheetRadius(square);
            int sheetX = wholeX(x);
            int sheetY = wholeY(y);
            anchor(o, sheetX, sheetY - radius);
            marks.add('C', sheetX, sheetY, radius, part, figures.style[o]);
        }

        private void plotAngle(int o) {
            int x = figures.nowX(o, 1);
            int y = figures.nowY(o, 1);
            if (!sheet.hasPlace(x, y)) {
                return;
            }
            int ax = figures.nowX(o, 0) - x;
            int ay = figures.nowY(o, 0) - y;
            int cx = figures.nowX(o, 2) - x;
            int cy = figures.nowY(o, 2) - y;
            anchor(o, wholeX(x), wholeY(y));
            marks.add('A', anchorX[o], anchorY[o], octantOf(ax, ay), octantOf(cx, cy), openingOf(ax, ay, cx, cy));
        }

        private static int openingOf(long ax, long ay, long cx, long cy) {
            long along = ax * cx + ay * cy;
            boolean straight = ax * cy == ay * cx;
            if (along == 0) {
                return 1;
            }
            if (along > 0) {
                return straight ? 4 : 0;
            }
            return straight ? 3 : 2;
        }

        private void plotTicks(int o) {
            int ax = figures.nowX(o, 0);
            int ay = figures.nowY(o, 0);
            int bx = figures.nowX(o, 1);
            int by = figures.nowY(o, 1);
            if (sheet.hasMiddle(ax + bx, ay + by)) {
                anchor(o, sheet.sheetX(ax + bx, 2), sheet.sheetY(ay + by, 2));
                marks.add('T', anchorX[o], anchorY[o], figures.strokes[o], octantOf(bx - ax, by - ay), 0);
            }
        }

        private void plotSolid(int s) {
            solids.lookAt(s);
            for (int a = 0; a < solids.vertices[s]; a++) {
                for (int b = a + 1; b < solids.vertices[s]; b++) {
                    if (solids.facesAt(s, a, b) > 0) {
                        plotEdge(s, a, b);
                    }
                }
            }
        }

        private void plotEdge(int s, int a, int b) {
            boolean behind = solids.isBehind(a, b);
            if (behind && figures.hidden[EDGES_BEHIND]) {
                return;
            }
            int ax = solids.nowX(s, a);
            int ay = solids.nowY(s, a);
            int bx = solids.nowX(s, b);
            int by = solids.nowY(s, b);
            if ((ax != bx || ay != by) && clip.cut(PIECE, ax, ay, bx, by)) {
                strokeCut(behind ? 1 : 0);
            }
        }
    }

    /** The labels, and where the drawing has them. */
    private static final class Placer {
        static final int MOST = 20;
        private static final int PLACES = 8;
        private static final int OUT = 8;
        private static final int HIGH = 9;
        private static final int MOST_TRIED = 6;
        private static final int MOST_ROUNDS = 10;
        private static final int CLOSED = -1;

        // Left of a place: the shift from the anchor, less so many half widths.
        private static final int[] SHIFT_X = {3, 2, 0, -2, -3, -2, 0, 2};
        private static final int[] HALVES = {0, 0, 1, 2, 2, 2, 1, 0};
        private static final int[] SHIFT_Y = {-4, -11, -12, -11, -4, 2, 3, 2};

        final Plotter plotter;
        final Sheet sheet;
        final Marks marks;
        final int[] object = new int[MOST];
        final int[] letters = new int[MOST];
        final int[] place = new int[MOST];
        final int[] cost = new int[MOST * PLACES];
        final int[] runner = new int[MOST];
        final int[] best = new int[MOST_TRIED];
        final int[] restOut = new int[MOST_TRIED + 1];
        final int[] restCost = new int[MOST_TRIED + 1];
        int count;
        int drawn;
        int runners;
        int outCount;
        int costSum;
        int rounds;
        private int bestOut;
        private int bestCost;

        Placer(Plotter thePlotter, Sheet theSheet, Marks theMarks) {
            plotter = thePlotter;
            sheet = theSheet;
            marks = theMarks;
            count = 0;
            drawn = 0;
        }

        int add(int o, int n) {
            if (count >= MOST) {
                return FULL;
            }
            object[count] = o;
            letters[count] = n;
            count++;
            return count - 1;
        }

        void placeAll() {
            drawn = count;
            runners = 0;
            rounds = 0;
            for (int l = 0; l < count; l++) {
                place[l] = OUT;
                if (plotter.shown[object[l]]) {
                    runner[runners] = l;
                    runners++;
                    priceAll(l);
                }
            }
            if (runners <= MOST_TRIED) {
                placeBest();
            } else {
                placeByRounds();
            }
            tell();
        }

        private void tell() {
            outCount = 0;
            costSum = 0;
            for (int l = 0; l < count; l++) {
                if (place[l] == OUT) {
                    outCount++;
                } else {
                    costSum += costOf(l, place[l]);
                    marks.add('W', leftOf(l, place[l]), topOf(l, place[l]), letters[l], l, 0);
                }
            }
        }

        private int widthOf(int l) {
            return 6 * letters[l];
        }

        private int leftOf(int l, int p) {
            return plotter.anchorX[object[l]] + SHIFT_X[p] - HALVES[p] * 3 * letters[l];
        }

        private int topOf(int l, int p) {
            return plotter.anchorY[object[l]] + SHIFT_Y[p];
        }

        private int costOf(int l, int p) {
            return cost[l * PLACES + p];
        }

        private void priceAll(int l) {
            for (int p = 0; p < PLACES; p++) {
                int left = leftOf(l, p);
                int top = topOf(l, p);
                int right = left + widthOf(l) - 1;
                int bottom = top + HIGH - 1;
                boolean open = left >= 0 && right < sheet.width && top >= 0 && bottom < sheet.height;
                cost[l * PLACES + p] = open ? p + marksCost(left, right, top, bottom) : CLOSED;
            }
        }

        private int marksCost(int left, int right, int top, int bottom) {
            int sum = 0;
            for (int k = 0; k < marks.count; k++) {
                int letter = marks.cellOf(k, 0);
                if (letter == 'D') {
                    boolean taken = within(marks.cellOf(k, 1), left, right) && within(marks.cellOf(k, 2), top, bottom);
                    sum += taken ? 10 : 0;
                } else if (letter == 'S' && strokeMeets(k, left, right, top, bottom)) {
                    sum += 4;
                }
            }
            return sum;
        }

        /** They meet, unless a line upright, level or along the stroke parts them. */
        private boolean strokeMeets(int k, int left, int right, int top, int bottom) {
            int x1 = marks.cellOf(k, 1);
            int y1 = marks.cellOf(k, 2);
            int x2 = marks.cellOf(k, 3);
            int y2 = marks.cellOf(k, 4);
            if (Math.max(x1, x2) < left || Math.min(x1, x2) > right
                    || Math.max(y1, y2) < top || Math.min(y1, y2) > bottom) {
                return false;
            }
            int dx = x2 - x1;
            int dy = y2 - y1;
            int a = dx * (top - y1) - dy * (left - x1);
            int b = dx * (top - y1) - dy * (right - x1);
            int c = dx * (bottom - y1) - dy * (left - x1);
            int d = dx * (bottom - y1) - dy * (right - x1);
            boolean allAbove = a > 0 && b > 0 && c > 0 && d > 0;
            boolean allBelow = a < 0 && b < 0 && c < 0 && d < 0;
            return !allAbove && !allBelow;
        }

        private boolean meet(int l, int p, int m, int q) {
            int across = leftOf(m, q) - leftOf(l, p);
            int down = topOf(m, q) - topOf(l, p);
            return across < widthOf(l) && -across < widthOf(m) && down < HIGH && -down < HIGH;
        }

        /** Whether a label may be on a place beside the first runners as they are now; itself it does not heed. */
        private boolean isFree(int l, int p, int first) {
            if (costOf(l, p) == CLOSED) {
                return false;
            }
            for (int i = 0; i < first; i++) {
                int other = runner[i];
                if (other != l && place[other] != OUT && meet(l, p, other, place[other])) {
                    return false;
                }
            }
            return true;
        }

        private void placeBest() {
            restOut[runners] = 0;
            restCost[runners] = 0;
            for (int i = runners - 1; i >= 0; i--) {
                int least = leastCost(runner[i]);
                restOut[i] = restOut[i + 1] + (least == CLOSED ? 1 : 0);
                restCost[i] = restCost[i + 1] + (least == CLOSED ? 0 : least);
            }
            bestOut = runners + 1;
            bestCost = 0;
            tryFrom(0, 0, 0);
            for (int i = 0; i < runners; i++) {
                place[runner[i]] = best[i];
            }
        }

        private int leastCost(int l) {
            int least = CLOSED;
            for (int p = 0; p < PLACES; p++) {
                int own = costOf(l, p);
                if (own != CLOSED && (least == CLOSED || own < least)) {
                    least = own;
                }
            }
            return least;
        }

        /** Goes through the rows from the least one on, so of rows alike the first one found stays. */
        private void tryFrom(int i, int out, int sum) {
            int leastOut = out + restOut[i];
            if (leastOut > bestOut || leastOut == bestOut && sum + restCost[i] >= bestCost) {
                return;
            }
            if (i >= runners) {
                keepBest(out, sum);
                return;
            }
            int l = runner[i];
            for (int p = 0; p < PLACES; p++) {
                if (isFree(l, p, i)) {
                    place[l] = p;
                    tryFrom(i + 1, out, sum + costOf(l, p));
                }
            }
            place[l] = OUT;
            tryFrom(i + 1, out + 1, sum);
        }

        private void keepBest(int out, int sum) {
            bestOut = out;
            bestCost = sum;
            for (int j = 0; j < runners; j++) {
                best[j] = place[runner[j]];
            }
        }

        private void placeByRounds() {
            boolean changed = true;
            while (changed && rounds < MOST_ROUNDS) {
                changed = false;
                rounds++;
                for (int i = 0; i < runners; i++) {
                    int l = runner[i];
                    int found = cheapestFree(l);
                    changed = changed || found != place[l];
                    place[l] = found;
                }
            }
        }

        private int cheapestFree(int l) {
            int found = OUT;
            for (int p = 0; p < PLACES; p++) {
                boolean cheaper = found == OUT || costOf(l, p) < costOf(l, found);
                if (cheaper && isFree(l, p, runners)) {
                    found = p;
                }
            }
            return found;
        }
    }

    private static final class Groups {
        static final int ANY_KIND = 8;
        static final int MOST_PLACES = 64;
        private static final int MOST = 6;

        final Figures figures;
        final boolean[] made = new boolean[MOST];
        final int[] kind = new int[MOST];
        final int[] places = new int[MOST];
        final int[] members = new int[MOST * MOST_PLACES];

        Groups(Figures allFigures) {
            figures = allFigures;
        }

        boolean inRange(int g) {
            return g >= 0 && g < MOST;
        }

        boolean isMade(int g) {
            return made[g];
        }

        void make(int g, int newKind, int n) {
            made[g] = true;
            kind[g] = newKind;
            places[g] = n;
            for (int i = 0; i < n && i < MOST_PLACES; i++) {
                members[g * MOST_PLACES + i] = NONE;
            }
        }

        int wrongPlace(int g, int i) {
            if (!made[g]) {
                return NOTHING;
            }
            return i >= 0 && i < places[g] ? DONE : NO_PLACE;
        }

        boolean takes(int g, int o) {
            return o == NONE || kind[g] == ANY_KIND || figures.has(o) && figures.kind[o] == kind[g];
        }

        int memberAt(int g, int i) {
            return members[g * MOST_PLACES + i];
        }

        void setMember(int g, int i, int o) {
            members[g * MOST_PLACES + i] = o;
        }
    }
}
