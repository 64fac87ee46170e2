import java.util.Random;

/** Runs of random calls, answered by DrawLabels as PlainDesk answers them. The seeds are fixed. */
public final class RandomTest {
    private static final Check CHECK = new Check("RandomTest");
    private static final int CALLS = 512;

    private final Random random;
    private final DrawLabels desk = new DrawLabels();
    private final PlainDesk plain = new PlainDesk();
    // How far points lie from 0, 0, and how often a wrong number is given, one time in so many.
    private final int spread;
    private final int wrongs;
    private int calls;

    private RandomTest(int seed) {
        random = new Random(seed);
        int[] spreads = {6, 30, 100, 1000, 20000};
        spread = spreads[seed % spreads.length];
        wrongs = seed % 3 == 0 ? 10 : 100;
    }

    public static void main(String[] args) {
        int runs = args.length > 0 ? Integer.parseInt(args[0]) : 2000;
        int first = args.length > 1 ? Integer.parseInt(args[1]) : 0;
        for (int seed = first; seed < first + runs; seed++) {
            CHECK.part("seed " + seed);
            new RandomTest(seed).run(seed);
        }
        CHECK.part("a stroke near a label");
        nearStrokes(new Random(runs), 20000);
        CHECK.end();
    }

    /** Strokes that just meet a box, or just do not, are rare in the runs above. */
    private static void nearStrokes(Random random, int times) {
        for (int i = 0; i < times; i++) {
            DrawLabels desk = Check.deskWith(50, 50);
            PlainDesk plain = new PlainDesk();
            plain.point(50, 50);
            for (int p = 0; p < 4; p++) {
                int x = 30 + random.nextInt(41);
                int y = 30 + random.nextInt(41);
                desk.point(x, y);
                plain.point(x, y);
            }
            desk.object(0, 0, 0, 0);
            plain.object(0, 0, 0, 0);
            for (int o = 0; o < 2; o++) {
                int kind = 1 + random.nextInt(3);
                desk.object(kind, 2 * o + 1, 2 * o + 2, 0);
                plain.object(kind, 2 * o + 1, 2 * o + 2, 0);
            }
            desk.label(0, 1);
            plain.label(0, 1);
            CHECK.due("draw", desk.draw(), plain.draw());
            CHECK.due("placed", desk.placed(0), plain.placed(0));
            CHECK.due("cost", desk.count(10), plain.count(10));
        }
    }

    /** Each answer that is compared is one call; those behind the last call that is promised are free. */
    private void due(String call, long got, long want) {
        calls++;
        if (calls <= CALLS) {
            CHECK.due(call, got, want);
        }
    }

    private void dueFloat(String call, float got, float want) {
        calls++;
        if (calls <= CALLS) {
            CHECK.dueFloat(call, got, want);
        }
    }

    private int any(int low, int high) {
        return low + random.nextInt(high - low + 1);
    }

    /** A number in the range, but now and then one that is not. */
    private int number(int low, int high) {
        if (random.nextInt(wrongs) > 0) {
            return any(low, high);
        }
        int[] odd = {low - 1, high + 1, low, high, -1, 0, Integer.MIN_VALUE, Integer.MAX_VALUE};
        return odd[random.nextInt(odd.length)];
    }

    private int known(int what) {
        return number(0, Math.max(0, plain.count(what) - 1));
    }

    private int place() {
        return random.nextInt(wrongs) == 0 ? number(-20000, 20000) : any(-spread, spread);
    }

    private void run(int seed) {
        int points = seed % 2 == 0 ? 8 : 25;
        for (int i = 0; i < points; i++) {
            point();
        }
        while (calls < CALLS) {
            int roll = random.nextInt(100);
            if (roll < 32) {
                build();
            } else if (roll < 50) {
                buildSolid();
            } else if (roll < 68) {
                change();
            } else if (roll < 80) {
                ask();
            } else if (roll < 95) {
                groups();
            } else {
                drawing();
            }
        }
    }

    private void point() {
        int x = place();
        int y = place();
        due("point " + x + " " + y, desk.point(x, y), plain.point(x, y));
    }

    private void build() {
        int roll = random.nextInt(10);
        if (roll == 0) {
            point();
        } else if (roll < 5) {
            int kind = number(0, 6);
            int a = known(0);
            int b = known(0);
            int c = kind == 6 ? number(1, 3) : known(0);
            due("object " + kind + " " + a + " " + b + " " + c, desk.object(kind, a, b, c), plain.object(kind, a, b, c));
        } else if (roll < 7) {
            int corners = any(2, random.nextInt(5) == 0 ? 13 : 5);
            for (int i = 0; i < corners; i++) {
                int p = known(0);
                due("corner " + p, desk.corner(p), plain.corner(p));
            }
            due("area", desk.area(), plain.area());
        } else {
            int o = known(1);
            int n = random.nextInt(2) == 0 ? number(1, 8) : number(1, 3);
            due("label " + o + " " + n, desk.label(o, n), plain.label(o, n));
        }
    }

    private void buildSolid() {
        int roll = random.nextInt(12);
        if (roll == 0) {
            int p = known(0);
            int m = spread > 500 ? number(1, 50) : number(1, 3);
            due("solid " + p + " " + m, desk.solid(p, m), plain.solid(p, m));
        } else if (roll < 6) {
            int s = known(2);
            int far = Math.min(spread, 100);
            int x = number(-far, far);
            int y = number(-far, far);
            int z = number(-far, far);
            due("vertex", desk.vertex(s, x, y, z), plain.vertex(s, x, y, z));
        } else {
            int s = known(2);
            int n = number(3, 6);
            int v = 0;
            int start = any(0, 11);
            for (int k = 0; k < 8; k++) {
                int next = random.nextInt(6) == 0 ? any(0, 15) : (start + k) % any(4, 8);
                v |= next << 4 * k;
            }
            due("face " + s + " " + n + " " + v, desk.face(s, n, v), plain.face(s, n, v));
        }
    }

    private void change() {
        int o = known(1);
        int p = known(0);
        switch (random.nextInt(11)) {
            case 0 -> {
                int u = number(-100, 100) / any(1, 100);
                int v = number(-100, 100) / any(1, 100);
                due("move", desk.move(p, u, v), plain.move(p, u, v));
            }
            case 1 -> {
                int t = random.nextInt(4) > 0 ? 0 : number(0, 100);
                due("tick " + t, desk.tick(t), plain.tick(t));
            }
            case 2, 3 -> {
                int s = number(0, 2);
                due("style", desk.style(o, s), plain.style(o, s));
            }
            case 4 -> {
                int kind = number(0, 9);
                boolean on = random.nextInt(4) == 0;
                due("hide", desk.hide(kind, on), plain.hide(kind, on));
            }
            case 5 -> due("fit", desk.fit(), plain.fit());
            case 6 -> window();
            case 7 -> {
                int w = number(16, random.nextInt(2) == 0 ? 400 : 60);
                int h = number(16, random.nextInt(2) == 0 ? 400 : 60);
                int m = number(0, 7);
                due("sheet", desk.sheet(w, h, m), plain.sheet(w, h, m));
            }
            case 8 -> {
                int g = random.nextInt(3) > 0 ? 0 : random.nextInt(4) == 0 ? number(0, 40000) : number(0, spread);
                due("grid", desk.grid(g), plain.grid(g));
            }
            case 9 -> {
                int h = random.nextInt(2) == 0 ? number(10, 1000) : number(10, 30);
                due("hatch", desk.hatch(h), plain.hatch(h));
            }
            default -> {
                int k = number(0, 4);
                due("view", desk.view(k), plain.view(k));
            }
        }
    }

    private void window() {
        int a = any(-spread - spread / 2, spread + spread / 2);
        int b = a + any(-1, 2 * spread);
        int c = any(-spread - spread / 2, spread + spread / 2);
        int d = c + any(-1, 2 * spread);
        if (random.nextInt(wrongs) == 0) {
            b = number(-40000, 40000);
        }
        due("window " + a + " " + b + " " + c + " " + d, desk.window(a, b, c, d), plain.window(a, b, c, d));
    }

    private void ask() {
        int o = known(1);
        int p = known(0);
        switch (random.nextInt(9)) {
            case 0 -> {
                int axis = number(0, 1);
                due("at", desk.at(p, axis), plain.at(p, axis));
            }
            case 1 -> due("fallen", desk.fallen(o), plain.fallen(o));
            case 2 -> due("measure", desk.measure(o), plain.measure(o));
            case 3 -> {
                int what = number(0, 3);
                due("side", desk.side(what), plain.side(what));
            }
            case 4 -> {
                boolean up = random.nextBoolean();
                due("scale", desk.scale(up), plain.scale(up));
            }
            case 5, 6 -> {
                int what = number(0, 2);
                dueFloat("single " + p + " " + what, desk.single(p, what), plain.single(p, what));
            }
            default -> {
                int s = known(2);
                int k = number(-1, Math.max(0, plain.edge(s, -1, 0)));
                int what = number(0, 3);
                due("edge " + s + " " + k + " " + what, desk.edge(s, k, what), plain.edge(s, k, what));
            }
        }
        due("code", desk.code(), plain.code());
    }

    private void groups() {
        int g = number(0, 5) / 2;
        int o = random.nextInt(5) == 0 ? -1 : known(1);
        switch (random.nextInt(8)) {
            case 0 -> {
                int kind = random.nextInt(2) == 0 ? 8 : number(0, 8);
                int n = random.nextInt(8) == 0 ? number(-5, 64) : number(0, 3);
                due("group", desk.group(g, kind, n), plain.group(g, kind, n));
            }
            case 1 -> {
                int i = number(0, 3);
                due("member", desk.member(g, i), plain.member(g, i));
            }
            case 2 -> {
                int s = number(0, 2);
                due("paint", desk.paint(g, s), plain.paint(g, s));
            }
            case 3 -> due("reach", desk.reach(o), plain.reach(o));
            default -> {
                int i = number(0, 3);
                due("put", desk.put(g, i, o), plain.put(g, i, o));
            }
        }
        due("code", desk.code(), plain.code());
    }

    private void drawing() {
        due("draw", desk.draw(), plain.draw());
        due("code", desk.code(), plain.code());
        for (int what = 6; what <= 11; what++) {
            due("count " + what, desk.count(what), plain.count(what));
        }
        due("digest", desk.digest(), plain.digest());
        for (int l = 0; l < plain.count(3); l++) {
            due("placed " + l, desk.placed(l), plain.placed(l));
        }
        due("placed", desk.placed(plain.count(3)), plain.placed(plain.count(3)));
        for (int i = 0; i < 3; i++) {
            int k = number(0, plain.count(6));
            int what = number(0, 6);
            due("mark " + k + " " + what, desk.mark(k, what), plain.mark(k, what));
            k = number(0, plain.count(8));
            due("octet " + k, desk.octet(k), plain.octet(k));
        }
        label();
    }

    /** A label behind a drawing is not in it. */
    private void label() {
        int o = known(1);
        int l = desk.label(o, 2);
        due("label " + o, l, plain.label(o, 2));
        due("placed " + l, desk.placed(l), plain.placed(l));
        int what = number(0, 11);
        due("count " + what, desk.count(what), plain.count(what));
    }
}
