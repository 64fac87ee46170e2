import java.math.BigDecimal;
import java.util.ArrayList;
import java.util.List;
import java.util.TreeMap;

/**
 * A second desk, written from the document for comparison: exact fractions,
 * lists, all ways tried. It shares no code with DrawLabels, and where it can,
 * no way of reckoning either.
 */
final class PlainDesk {
    private static final int NONE = -1, UNKNOWN = -100001, OUTSIDE = -100002, NOT = -100003, FULL = -100004;

    private record Point(int x, int y, int[] way) {
    }

    private record Thing(int kind, List<Integer> points, int n, int[] style) {
    }

    private record Solid(int p, int m, List<int[]> vertices, List<List<Integer>> faces) {
    }

    private record Edge(int lesser, int greater, List<Integer> faces) {
    }

    private record Label(int o, int n) {
    }

    private record Group(int kind, int[] places) {
    }

    private record Cut(Fraction x1, Fraction y1, Fraction x2, Fraction y2) {
    }

    private final List<Point> points = new ArrayList<>();
    private final List<Thing> things = new ArrayList<>();
    private final List<Integer> chain = new ArrayList<>();
    private final List<Solid> solids = new ArrayList<>();
    private final List<Label> labels = new ArrayList<>();
    private final Group[] groups = new Group[6];
    private final boolean[] hidden = new boolean[10];
    private int now, left, right = 100, bottom, top = 100, width = 100, height = 100, margin;
    private int grid, hatch = 10, view, code;

    private List<int[]> marks = new ArrayList<>();
    private int lost, costs, rounds;
    private int[] place = new int[0];
    private String octets = "";
    private TreeMap<Integer, int[]> anchors = new TreeMap<>();
    private int[][][] boxes = new int[0][][];

    private static boolean in(int n, int low, int high) {
        return low <= n && n <= high;
    }

    private static boolean has(List<?> list, int k) {
        return in(k, 0, list.size() - 1);
    }

    // ---- points, objects

    int point(int x, int y) {
        if (Math.abs((long) x) > 20000 || Math.abs((long) y) > 20000) return OUTSIDE;
        if (points.size() == 60) return FULL;
        points.add(new Point(x, y, new int[2]));
        return points.size() - 1;
    }

    int move(int p, int u, int v) {
        if (!has(points, p)) return UNKNOWN;
        if (!in(u, -100, 100) || !in(v, -100, 100)) return OUTSIDE;
        points.get(p).way[0] = u;
        points.get(p).way[1] = v;
        return 1;
    }

    int tick(int t) {
        if (!in(t, 0, 100)) return OUTSIDE;
        int was = now;
        now = t;
        return was;
    }

    int at(int p, int axis) {
        if (!has(points, p)) return UNKNOWN;
        if (axis != 0 && axis != 1) return OUTSIDE;
        return axis == 0 ? x(p) : y(p);
    }

    private int x(int p) {
        return points.get(p).x + now * points.get(p).way[0];
    }

    private int y(int p) {
        return points.get(p).y + now * points.get(p).way[1];
    }

    int object(int kind, int a, int b, int c) {
        List<Integer> wanted = switch (kind) {
            case 1, 2, 3, 4, 6 -> List.of(a, b);
            case 5 -> List.of(a, b, c);
            default -> List.of(a);
        };
        for (int p : wanted) {
            if (!has(points, p)) return UNKNOWN;
        }
        if (kind < 0 || kind > 6) return OUTSIDE;
        if (kind == 6 && (c < 1 || c > 3)) return OUTSIDE;
        if (things.size() == 40) return FULL;
        things.add(new Thing(kind, wanted, c, new int[1]));
        return things.size() - 1;
    }

    int corner(int p) {
        if (!has(points, p)) return UNKNOWN;
        if (chain.size() == 12) return FULL;
        chain.add(p);
        return chain.size();
    }

    int area() {
        if (chain.size() < 3) return NOT;
        if (things.size() == 40) return FULL;
        things.add(new Thing(7, List.copyOf(chain), 0, new int[1]));
        chain.clear();
        return things.size() - 1;
    }

    int style(int o, int s) {
        if (!has(things, o)) return UNKNOWN;
        if (!in(s, 0, 2)) return OUTSIDE;
        int was = things.get(o).style[0];
        things.get(o).style[0] = s;
        return was;
    }

    int hide(int kind, boolean on) {
        if (!in(kind, 0, 9)) return OUTSIDE;
        int was = hidden[kind] ? 1 : 0;
        hidden[kind] = on;
        return was;
    }

    int fallen(int o) {
        return has(things, o) ? (isFallen(things.get(o)) ? 1 : 0) : UNKNOWN;
    }

    private boolean same(int p, int q) {
        return x(p) == x(q) && y(p) == y(q);
    }

    private boolean isFallen(Thing t) {
        List<Integer> ps = t.points;
        if (t.kind == 0) return false;
        if (t.kind == 7) return measureOf(t) == 0;
        if (t.kind == 5) return same(ps.get(0), ps.get(1)) || same(ps.get(2), ps.get(1));
        return same(ps.get(0), ps.get(1));
    }

    private long measureOf(Thing t) {
        long sum = 0;
        for (int i = 0; i < t.points.size(); i++) {
            int p = t.points.get(i);
            int q = t.points.get((i + 1) % t.points.size());
            sum += (long) x(p) * y(q) - (long) x(q) * y(p);
        }
        return sum;
    }

    long measure(int o) {
        if (!has(things, o)) return UNKNOWN;
        return things.get(o).kind == 7 ? measureOf(things.get(o)) : 0;
    }

    // ---- window, sheet

    int window(int l, int r, int b, int t) {
        for (int n : new int[] {l, r, b, t}) {
            if (!in(n, -40000, 40000)) return OUTSIDE;
        }
        if (l > r || b > t) return OUTSIDE;
        left = l;
        right = r;
        bottom = b;
        top = t;
        return 1;
    }

    int fit() {
        List<Integer> xs = new ArrayList<>();
        List<Integer> ys = new ArrayList<>();
        int fitted = 0;
        for (Thing t : things) {
            if (hidden[t.kind]) continue;
            fitted++;
            for (int p : t.points) {
                xs.add(x(p));
                ys.add(y(p));
            }
        }
        if (fitted == 0) return NOT;
        xs.sort(null);
        ys.sort(null);
        left = xs.get(0);
        right = xs.get(xs.size() - 1);
        bottom = ys.get(0);
        top = ys.get(ys.size() - 1);
        return fitted;
    }

    int side(int what) {
        return in(what, 0, 3) ? new int[] {left, right, bottom, top}[what] : OUTSIDE;
    }

    int sheet(int w, int h, int m) {
        if (!in(w, 16, 400) || !in(h, 16, 400) || !in(m, 0, 7)) return OUTSIDE;
        width = w;
        height = h;
        margin = m;
        return 1;
    }

    int grid(int g) {
        if (!in(g, 0, 40000)) return OUTSIDE;
        int was = grid;
        grid = g;
        return was;
    }

    int hatch(int h) {
        if (!in(h, 10, 1000)) return OUTSIDE;
        int was = hatch;
        hatch = h;
        return was;
    }

    private Fraction scaleOrNull() {
        if (left == right || bottom == top) return null;
        Fraction a = Fraction.of(width - 2 * margin, right - left);
        Fraction b = Fraction.of(height - 2 * margin, top - bottom);
        return a.compareTo(b) < 0 ? a : b;
    }

    int scale(boolean up) {
        Fraction s = scaleOrNull();
        code = s == null ? 6 : 0;
        return s == null ? 0 : Math.toIntExact(up ? s.above : s.below);
    }

    private Fraction onX(Fraction x) {
        return Fraction.of(width, 2).plus(x.less(Fraction.of(left + right, 2)).times(scaleOrNull()));
    }

    private Fraction onY(Fraction y) {
        return Fraction.of(height, 2).less(y.less(Fraction.of(bottom + top, 2)).times(scaleOrNull()));
    }

    float single(int p, int what) {
        if (!has(points, p)) return UNKNOWN;
        if (!in(what, 0, 2)) return OUTSIDE;
        code = 0;
        if (what == 2) {
            long dx = x(p) - (p == 0 ? 0 : x(p - 1));
            long dy = y(p) - (p == 0 ? 0 : y(p - 1));
            return new BigDecimal(dx * dx + dy * dy).floatValue();
        }
        if (scaleOrNull() == null) {
            code = 6;
            return 0;
        }
        Fraction f = what == 0 ? onX(Fraction.of(x(p))) : onY(Fraction.of(y(p)));
        return new BigDecimal(f.above).floatValue() / new BigDecimal(f.below).floatValue();
    }

    // ---- solids

    int solid(int p, int m) {
        if (!has(points, p)) return UNKNOWN;
        if (!in(m, 1, 50)) return OUTSIDE;
        if (solids.size() == 4) return FULL;
        solids.add(new Solid(p, m, new ArrayList<>(), new ArrayList<>()));
        return solids.size() - 1;
    }

    int vertex(int s, int x, int y, int z) {
        if (!has(solids, s)) return UNKNOWN;
        if (!in(x, -100, 100) || !in(y, -100, 100) || !in(z, -100, 100)) return OUTSIDE;
        List<int[]> vs = solids.get(s).vertices;
        if (vs.size() == 12) return FULL;
        vs.add(new int[] {x, y, z});
        return vs.size() - 1;
    }

    int face(int s, int n, int v) {
        if (!has(solids, s)) return UNKNOWN;
        if (!in(n, 3, 6)) return OUTSIDE;
        List<Integer> ring = new ArrayList<>();
        for (int k = 0; k < n; k++) {
            ring.add((int) ((v & 0xffffffffL) / (1L << 4 * k) % 16));
        }
        for (int k : ring) {
            if (k >= solids.get(s).vertices.size()) return UNKNOWN;
        }
        if (ring.stream().distinct().count() < n) return NOT;
        if (solids.get(s).faces.size() == 10) return FULL;
        solids.get(s).faces.add(ring);
        return solids.get(s).faces.size();
    }

    int view(int k) {
        if (!in(k, 0, 4)) return OUTSIDE;
        int was = view;
        view = k;
        return was;
    }

    private static List<Edge> edges(Solid s) {
        TreeMap<Integer, Edge> found = new TreeMap<>();
        for (int f = 0; f < s.faces.size(); f++) {
            List<Integer> ring = s.faces.get(f);
            for (int i = 0; i < ring.size(); i++) {
                int a = ring.get(i);
                int b = ring.get((i + 1) % ring.size());
                int lesser = Math.min(a, b);
                int greater = Math.max(a, b);
                found.computeIfAbsent(lesser * 100 + greater, k -> new Edge(lesser, greater, new ArrayList<>())).faces.add(f);
            }
        }
        return new ArrayList<>(found.values());
    }

    private boolean seen(Solid s, int f) {
        int[] a = s.vertices.get(s.faces.get(f).get(0));
        int[] b = s.vertices.get(s.faces.get(f).get(1));
        int[] c = s.vertices.get(s.faces.get(f).get(2));
        int[] e = new int[][] {{0, 0, 1}, {0, 1, 0}, {1, 0, 0}, {1, 1, 2}, {1, 1, 1}}[view];
        int sum = 0;
        for (int i = 0; i < 3; i++) {
            int j = (i + 1) % 3;
            int k = (i + 2) % 3;
            sum += e[i] * ((b[j] - a[j]) * (c[k] - a[k]) - (b[k] - a[k]) * (c[j] - a[j]));
        }
        return sum > 0;
    }

    private boolean behind(Solid s, Edge e) {
        for (int f : e.faces) {
            if (seen(s, f)) return false;
        }
        return true;
    }

    int edge(int s, int k, int what) {
        if (!has(solids, s)) return UNKNOWN;
        List<Edge> all = edges(solids.get(s));
        if (k == -1) return all.size();
        if (!has(all, k)) return UNKNOWN;
        Edge e = all.get(k);
        return switch (what) {
            case 0 -> e.lesser;
            case 1 -> e.greater;
            case 2 -> behind(solids.get(s), e) ? 1 : 0;
            case 3 -> e.faces.size();
            default -> OUTSIDE;
        };
    }

    private int[] seenAt(Solid s, int k) {
        int[] v = s.vertices.get(k);
        int x = v[0];
        int y = v[1];
        int z = v[2];
        int[] pq = switch (view) {
            case 0 -> new int[] {x, y};
            case 1 -> new int[] {x, -z};
            case 2 -> new int[] {-z, y};
            case 3 -> new int[] {2 * x - z, 2 * y - z};
            default -> new int[] {x - z, 2 * y - x - z};
        };
        return new int[] {x(s.p) + s.m * pq[0], y(s.p) + s.m * pq[1]};
    }

    // ---- drawings

    int label(int o, int n) {
        if (!has(things, o)) return UNKNOWN;
        if (!in(n, 1, 8)) return OUTSIDE;
        if (labels.size() == 20) return FULL;
        labels.add(new Label(o, n));
        return labels.size() - 1;
    }

    private void add(int... mark) {
        if (marks.size() < 600) marks.add(mark);
        else lost++;
    }

    int draw() {
        marks = new ArrayList<>();
        anchors = new TreeMap<>();
        lost = 0;
        costs = 0;
        rounds = 0;
        place = new int[labels.size()];
        java.util.Arrays.fill(place, 8);
        add('F', width, height);
        code = scaleOrNull() == null ? 6 : 0;
        if (code == 0) {
            drawGrid();
            for (int o = 0; o < things.size(); o++) {
                if (isShown(o) && things.get(o).kind == 7) drawArea(o);
            }
            for (int o = 0; o < things.size(); o++) {
                if (isShown(o) && things.get(o).kind != 7) drawThing(o);
            }
            if (!hidden[8]) solids.forEach(this::drawSolid);
            placeLabels();
        }
        writeOctets();
        return code == 0 ? marks.size() : 0;
    }

    private boolean isShown(int o) {
        return !hidden[things.get(o).kind] && !isFallen(things.get(o));
    }

    private void addStroke(Fraction x1, Fraction y1, Fraction x2, Fraction y2, int s) {
        add('S', onX(x1).rounded(), onY(y1).rounded(), onX(x2).rounded(), onY(y2).rounded(), s);
    }

    private void drawGrid() {
        if (grid == 0) return;
        for (int x = left; x <= right; x++) {
            if (x % grid != 0) continue;
            if (marks.size() == 600) lost++;
            else addStroke(Fraction.of(x), Fraction.of(bottom), Fraction.of(x), Fraction.of(top), 1);
        }
        for (int y = bottom; y <= top; y++) {
            if (y % grid != 0) continue;
            if (marks.size() == 600) lost++;
            else addStroke(Fraction.of(left), Fraction.of(y), Fraction.of(right), Fraction.of(y), 1);
        }
    }

    private void drawArea(int o) {
        Thing t = things.get(o);
        int n = t.points.size();
        int sumX = 0;
        int sumY = 0;
        for (int p : t.points) {
            sumX += onX(Fraction.of(x(p))).rounded();
            sumY += onY(Fraction.of(y(p))).rounded();
        }
        anchors.put(o, new int[] {Fraction.of(sumX, n).down(), Fraction.of(sumY, n).down()});
        for (int y = bottom; y <= top; y++) {
            if (y % hatch != 0) continue;
            List<Fraction> met = new ArrayList<>();
            for (int i = 0; i < n; i++) {
                int p = t.points.get(i);
                int q = t.points.get((i + 1) % n);
                if (y(p) <= y == y(q) <= y) continue;
                Fraction share = Fraction.of(y - y(p), y(q) - y(p));
                met.add(Fraction.of(x(p)).plus(share.times(Fraction.of(x(q) - x(p)))));
            }
            met.sort(null);
            for (int i = 0; i < met.size(); i += 2) {
                Fraction from = met.get(i).compareTo(Fraction.of(left)) < 0 ? Fraction.of(left) : met.get(i);
                Fraction to = met.get(i + 1).compareTo(Fraction.of(right)) > 0 ? Fraction.of(right) : met.get(i + 1);
                if (from.compareTo(to) > 0) continue;
                addStroke(from, Fraction.of(y), to, Fraction.of(y), t.style[0]);
            }
        }
    }

    /** Tries every share of the way at which it may enter or leave, and keeps the first and the last that is inside. */
    private Cut cut(int kind, int ax, int ay, int bx, int by) {
        List<Fraction> shares = new ArrayList<>();
        int dx = bx - ax;
        int dy = by - ay;
        if (kind != 2) shares.add(Fraction.of(0));
        if (kind == 1) shares.add(Fraction.of(1));
        if (dx != 0) {
            shares.add(Fraction.of(left - ax, dx));
            shares.add(Fraction.of(right - ax, dx));
        }
        if (dy != 0) {
            shares.add(Fraction.of(bottom - ay, dy));
            shares.add(Fraction.of(top - ay, dy));
        }
        shares.sort(null);
        List<Fraction[]> inside = new ArrayList<>();
        for (Fraction share : shares) {
            if (kind != 2 && share.sign() < 0 || kind == 1 && share.compareTo(Fraction.of(1)) > 0) continue;
            Fraction x = Fraction.of(ax).plus(share.times(Fraction.of(dx)));
            Fraction y = Fraction.of(ay).plus(share.times(Fraction.of(dy)));
            if (x.within(Fraction.of(left), Fraction.of(right)) && y.within(Fraction.of(bottom), Fraction.of(top))) {
                inside.add(new Fraction[] {x, y});
            }
        }
        if (inside.isEmpty()) return null;
        Fraction[] first = inside.get(0);
        Fraction[] last = inside.get(inside.size() - 1);
        return new Cut(first[0], first[1], last[0], last[1]);
    }

    private void drawThing(int o) {
        Thing t = things.get(o);
        int s = t.style[0];
        int[] xs = t.points.stream().mapToInt(this::x).toArray();
        int[] ys = t.points.stream().mapToInt(this::y).toArray();
        int[] mark = switch (t.kind) {
            case 0 -> !inWindow(xs[0], ys[0]) ? null : new int[] {'D', wholeX(xs[0]), wholeY(ys[0]), s};
            case 4 -> circle(xs[0], ys[0], squared(xs[1] - xs[0], ys[1] - ys[0]), s);
            case 5 -> !inWindow(xs[1], ys[1]) ? null : new int[] {'A', wholeX(xs[1]), wholeY(ys[1]),
                octant(xs[0] - xs[1], ys[0] - ys[1]), octant(xs[2] - xs[1], ys[2] - ys[1]), opening(xs, ys)};
            case 6 -> ticks(xs, ys, t.n);
            default -> straight(cut(t.kind, xs[0], ys[0], xs[1], ys[1]), s);
        };
        if (mark == null) return;
        add(mark);
        anchors.put(o, switch (mark[0]) {
            case 'S' -> new int[] {Fraction.of(mark[1] + mark[3], 2).down(), Fraction.of(mark[2] + mark[4], 2).down()};
            case 'C' -> new int[] {mark[1], mark[2] - mark[3]};
            default -> new int[] {mark[1], mark[2]};
        });
    }

    private boolean inWindow(int x, int y) {
        return left <= x && x <= right && bottom <= y && y <= top;
    }

    private int wholeX(int x) {
        return onX(Fraction.of(x)).rounded();
    }

    private int wholeY(int y) {
        return onY(Fraction.of(y)).rounded();
    }

    private static long squared(long dx, long dy) {
        return dx * dx + dy * dy;
    }

    private int[] straight(Cut c, int s) {
        if (c == null) return null;
        return new int[] {'S', onX(c.x1).rounded(), onY(c.y1).rounded(), onX(c.x2).rounded(), onY(c.y2).rounded(), s};
    }

    /** A circle's line that meets the window crosses one of its sides or lies all within. */
    private int[] circle(int x, int y, long square, int s) {
        boolean all = true;
        for (int reach : new int[] {x - left, right - x, y - bottom, top - y}) {
            all = all && reach >= 0 && (long) reach * reach >= square;
        }
        boolean crosses = sideMeets(left - x, bottom - y, right - x, bottom - y, square)
                || sideMeets(left - x, top - y, right - x, top - y, square)
                || sideMeets(left - x, bottom - y, left - x, top - y, square)
                || sideMeets(right - x, bottom - y, right - x, top - y, square);
        if (!all && !crosses) return null;
        // The radius rounds to k, or more, if 2 k - 1 is not above it doubled.
        Fraction scale = scaleOrNull();
        BigDecimal doubled = BigDecimal.valueOf(square).multiply(BigDecimal.valueOf(4 * scale.above * scale.above));
        BigDecimal below = BigDecimal.valueOf(scale.below * scale.below);
        long radius = 0;
        for (long step = 1L << 30; step > 0; step /= 2) {
            BigDecimal odd = BigDecimal.valueOf(2 * (radius + step) - 1);
            if (odd.multiply(odd).multiply(below).compareTo(doubled) <= 0) radius += step;
        }
        return new int[] {'C', wholeX(x), wholeY(y), (int) radius, all ? 0 : 1, s};
    }

    private static boolean sideMeets(long ax, long ay, long bx, long by, long square) {
        long far = Math.max(squared(ax, ay), squared(bx, by));
        long near = Math.min(squared(ax, ay), squared(bx, by));
        if (ay == by && ax <= 0 && bx >= 0) near = ay * ay;
        if (ax == bx && ay <= 0 && by >= 0) near = ax * ax;
        return near <= square && square <= far;
    }

    private static int octant(long dx, long dy) {
        int[][] rays = {{1, 0}, {1, 1}, {0, 1}, {-1, 1}, {-1, 0}, {-1, -1}, {0, -1}, {1, -1}, {1, 0}};
        for (int k = 0; k < 8; k++) {
            boolean behindFirst = rays[k][0] * dy - rays[k][1] * dx >= 0;
            boolean aheadOfSecond = rays[k + 1][1] * dx - rays[k + 1][0] * dy > 0;
            if (behindFirst && aheadOfSecond) return k;
        }
        throw new IllegalStateException();
    }

    private static int opening(int[] xs, int[] ys) {
        long ax = xs[0] - xs[1];
        long ay = ys[0] - ys[1];
        long cx = xs[2] - xs[1];
        long cy = ys[2] - ys[1];
        long dot = ax * cx + ay * cy;
        long cross = ax * cy - ay * cx;
        if (cross == 0) return dot > 0 ? 4 : 3;
        return dot > 0 ? 0 : dot == 0 ? 1 : 2;
    }

    private int[] ticks(int[] xs, int[] ys, int n) {
        Fraction x = Fraction.of(xs[0] + xs[1], 2);
        Fraction y = Fraction.of(ys[0] + ys[1], 2);
        if (!x.within(Fraction.of(left), Fraction.of(right)) || !y.within(Fraction.of(bottom), Fraction.of(top))) return null;
        return new int[] {'T', onX(x).rounded(), onY(y).rounded(), n, octant(xs[1] - xs[0], ys[1] - ys[0])};
    }

    private void drawSolid(Solid s) {
        for (Edge e : edges(s)) {
            boolean isBehind = behind(s, e);
            int[] a = seenAt(s, e.lesser);
            int[] b = seenAt(s, e.greater);
            if (isBehind && hidden[9] || a[0] == b[0] && a[1] == b[1]) continue;
            int[] mark = straight(cut(1, a[0], a[1], b[0], b[1]), isBehind ? 1 : 0);
            if (mark != null) add(mark);
        }
    }

    // ---- labels

    /** Left, top, right, bottom of a label on a place. */
    private int[] box(int l, int p) {
        int[] a = anchors.get(labels.get(l).o);
        int w = 6 * labels.get(l).n;
        int x = a[0];
        int y = a[1];
        int[] corner = switch (p) {
            case 0 -> new int[] {x + 3, y - 4};
            case 1 -> new int[] {x + 2, y - 11};
            case 2 -> new int[] {x - w / 2, y - 12};
            case 3 -> new int[] {x - 2 - w, y - 11};
            case 4 -> new int[] {x - 3 - w, y - 4};
            case 5 -> new int[] {x - 2 - w, y + 2};
            case 6 -> new int[] {x - w / 2, y + 3};
            default -> new int[] {x + 2, y + 2};
        };
        return new int[] {corner[0], corner[1], corner[0] + w - 1, corner[1] + 8};
    }

    private boolean open(int l, int p) {
        int[] b = boxes[l][p];
        return b[0] >= 0 && b[1] >= 0 && b[2] <= width - 1 && b[3] <= height - 1;
    }

    private boolean meets(int l, int p, int m, int q) {
        int[] a = boxes[l][p];
        int[] b = boxes[m][q];
        return Math.max(a[0], b[0]) <= Math.min(a[2], b[2]) && Math.max(a[1], b[1]) <= Math.min(a[3], b[3]);
    }

    private int cost(int l, int p) {
        int[] b = boxes[l][p];
        int sum = p;
        for (int[] m : marks) {
            if (m[0] == 'D' && in(m[1], b[0], b[2]) && in(m[2], b[1], b[3])) sum += 10;
            if (m[0] == 'S' && takes(b, m)) sum += 4;
        }
        return sum;
    }

    /** A straight way meets a box, if an end is within, or it crosses one of the box's two diagonals. */
    private static boolean takes(int[] b, int[] m) {
        if (in(m[1], b[0], b[2]) && in(m[2], b[1], b[3])) return true;
        if (in(m[3], b[0], b[2]) && in(m[4], b[1], b[3])) return true;
        return crosses(m, b[0], b[1], b[2], b[3]) || crosses(m, b[0], b[3], b[2], b[1]);
    }

    private static boolean crosses(int[] m, int x1, int y1, int x2, int y2) {
        long a = Long.signum(turn(m[1], m[2], m[3], m[4], x1, y1));
        long b = Long.signum(turn(m[1], m[2], m[3], m[4], x2, y2));
        long c = Long.signum(turn(x1, y1, x2, y2, m[1], m[2]));
        long d = Long.signum(turn(x1, y1, x2, y2, m[3], m[4]));
        boolean boxesMeet = Math.max(Math.min(m[1], m[3]), Math.min(x1, x2)) <= Math.min(Math.max(m[1], m[3]), Math.max(x1, x2))
                && Math.max(Math.min(m[2], m[4]), Math.min(y1, y2)) <= Math.min(Math.max(m[2], m[4]), Math.max(y1, y2));
        return boxesMeet && a * b <= 0 && c * d <= 0;
    }

    private static long turn(long ax, long ay, long bx, long by, long px, long py) {
        return (bx - ax) * (py - ay) - (by - ay) * (px - ax);
    }

    private void placeLabels() {
        List<Integer> those = new ArrayList<>();
        int[][] cost = new int[labels.size()][8];
        boxes = new int[labels.size()][8][];
        for (int l = 0; l < labels.size(); l++) {
            if (!anchors.containsKey(labels.get(l).o)) continue;
            those.add(l);
            for (int p = 0; p < 8; p++) {
                boxes[l][p] = box(l, p);
                cost[l][p] = open(l, p) ? cost(l, p) : -1;
            }
        }
        if (those.size() <= 6) bestOfAll(those, cost);
        else byRounds(those, cost);
        for (int l = 0; l < labels.size(); l++) {
            if (place[l] == 8) continue;
            costs += cost[l][place[l]];
            int[] b = boxes[l][place[l]];
            add('W', b[0], b[1], labels.get(l).n, l);
        }
    }

    private void bestOfAll(List<Integer> those, int[][] cost) {
        int[] row = new int[those.size()];
        int[] best = null;
        long bestWorth = Long.MAX_VALUE;
        boolean more = true;
        while (more) {
            int clash = firstClash(those, row, cost);
            if (clash == row.length) {
                long worth = 0;
                for (int i = 0; i < row.length; i++) {
                    worth += row[i] == 8 ? 1000000000L : cost[those.get(i)][row[i]];
                }
                if (worth < bestWorth) {
                    bestWorth = worth;
                    best = row.clone();
                }
                clash = row.length - 1;
            }
            // On to the next row that differs at the place of the clash, or ahead of it.
            for (int i = clash + 1; i < row.length; i++) {
                row[i] = 0;
            }
            int i = clash;
            while (i >= 0 && row[i] == 8) {
                row[i] = 0;
                i--;
            }
            more = i >= 0;
            if (more) row[i]++;
        }
        for (int i = 0; i < row.length; i++) {
            place[those.get(i)] = best[i];
        }
    }

    private int firstClash(List<Integer> those, int[] row, int[][] cost) {
        for (int i = 0; i < row.length; i++) {
            if (row[i] == 8) continue;
            if (cost[those.get(i)][row[i]] < 0) return i;
            for (int j = 0; j < i; j++) {
                if (row[j] != 8 && meets(those.get(i), row[i], those.get(j), row[j])) return i;
            }
        }
        return row.length;
    }

    private void byRounds(List<Integer> those, int[][] cost) {
        for (rounds = 1; rounds <= 10; rounds++) {
            int[] before = place.clone();
            for (int l : those) {
                int best = 8;
                for (int p = 7; p >= 0; p--) {
                    if (cost[l][p] < 0 || best < 8 && cost[l][p] > cost[l][best]) continue;
                    boolean free = true;
                    for (int m : those) {
                        free = free && (m == l || place[m] == 8 || !meets(l, p, m, place[m]));
                    }
                    if (free) best = p;
                }
                place[l] = best;
            }
            if (java.util.Arrays.equals(before, place)) return;
        }
        rounds = 10;
    }

    private void writeOctets() {
        StringBuilder all = new StringBuilder();
        for (int[] m : marks) {
            all.append((char) m[0]);
            for (int i = 1; i < m.length; i++) {
                all.append(' ').append(m[i]);
            }
            all.append('\n');
        }
        octets = all.toString();
    }

    int mark(int k, int what) {
        if (!has(marks, k)) return UNKNOWN;
        if (!in(what, 0, 6)) return OUTSIDE;
        return what < marks.get(k).length ? marks.get(k)[what] : 0;
    }

    int placed(int l) {
        if (!has(labels, l)) return UNKNOWN;
        return l < place.length ? place[l] : NONE;
    }

    int octet(int k) {
        return in(k, 0, octets.length() - 1) ? octets.charAt(k) : NONE;
    }

    int digest() {
        int d = 17;
        for (char c : octets.toCharArray()) {
            d = 31 * d + c;
        }
        return d;
    }

    int count(int what) {
        int out = 0;
        for (int p : place) {
            out += p == 8 ? 1 : 0;
        }
        int[] all = {points.size(), things.size(), solids.size(), labels.size(), now, view,
            marks.size(), lost, octets.length(), out, costs, rounds};
        return in(what, 0, 11) ? all[what] : OUTSIDE;
    }

    // ---- groups

    int code() {
        return code;
    }

    private int coded(int newCode, int answer) {
        code = newCode;
        return newCode == 0 ? answer : 0;
    }

    int group(int g, int kind, int n) {
        if (!in(g, 0, 5) || !in(kind, 0, 8) || n > 64) return OUTSIDE;
        if (n < 0) return coded(4, 0);
        groups[g] = new Group(kind, new int[n]);
        java.util.Arrays.fill(groups[g].places, NONE);
        return coded(0, n);
    }

    int put(int g, int i, int o) {
        if (o != NONE && !has(things, o)) return UNKNOWN;
        if (!in(g, 0, 5)) return OUTSIDE;
        if (groups[g] == null) return coded(1, 0);
        if (!in(i, 0, groups[g].places.length - 1)) return coded(3, 0);
        if (o != NONE && groups[g].kind != 8 && groups[g].kind != things.get(o).kind) return coded(2, 0);
        groups[g].places[i] = o;
        return coded(0, 1);
    }

    int member(int g, int i) {
        if (!in(g, 0, 5)) return OUTSIDE;
        if (groups[g] == null) return coded(1, 0);
        if (!in(i, 0, groups[g].places.length - 1)) return coded(3, 0);
        return groups[g].places[i] == NONE ? coded(1, 0) : coded(0, groups[g].places[i]);
    }

    int paint(int g, int s) {
        if (!in(g, 0, 5) || !in(s, 0, 2)) return OUTSIDE;
        if (groups[g] == null) return coded(1, 0);
        for (int o : groups[g].places) {
            if (o == NONE) return coded(1, 0);
            things.get(o).style[0] = s;
        }
        return coded(0, groups[g].places.length);
    }

    long reach(int o) {
        if (!has(things, o)) return UNKNOWN;
        Thing t = things.get(o);
        if (t.kind != 4) return coded(2, 0);
        code = 0;
        int a = t.points.get(0);
        int b = t.points.get(1);
        return squared(x(b) - x(a), y(b) - y(a));
    }
}
