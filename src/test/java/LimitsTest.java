/**
 * The least and the greatest value of each number, and how many there may be of everything: what the last ones that
 * are allowed do. That the first ones that are not allowed are refused stands in RefusalsTest.
 */
public final class LimitsTest {
    private static final int NOT = DrawLabels.NOT, FULL = DrawLabels.FULL, NONE = DrawLabels.NONE;
    private static final Check CHECK = new Check("LimitsTest");

    public static void main(String[] args) {
        placesOfPoints();
        sixtyPoints();
        fortyObjects();
        fortiethIsAnArea();
        stylesAtFirst();
        strokesOfTicks();
        chain();
        chainIsCopied();
        window();
        sheet();
        scale();
        noScale();
        gridSteps();
        hatchSteps();
        solids();
        vertices();
        faces();
        fullSolids();
        views();
        letters();
        twentyLabels();
        groupsApart();
        placesOfGroups();
        emptyAgain();
        paintedOnes();
        kindsOfGroups();
        CHECK.end();
    }

    private static void due(String call, long got, long want) {
        CHECK.due(call, got, want);
    }

    private static void duePlace(String name, DrawLabels desk, int p, int x, int y) {
        due(name + " x", desk.at(p, 0), x);
        due(name + " y", desk.at(p, 1), y);
    }

    private static void placesOfPoints() {
        CHECK.part("terms 2: x, y -20000 .. 20000; u, v -100 .. 100, 0 at first; t 0 .. 100, 0 at first");
        DrawLabels desk = Check.deskWith(-20000, 20000, 20000, -20000);
        duePlace("least, greatest", desk, 0, -20000, 20000);
        duePlace("greatest, least", desk, 1, 20000, -20000);
        due("THE TICK was 0", desk.tick(100), 0);
        duePlace("does not move at first", desk, 0, -20000, 20000);
        due("move", desk.move(0, -100, 100), 1);
        due("move", desk.move(1, 100, -100), 1);
        duePlace("as far as can be", desk, 0, -30000, 30000);
        duePlace("as far as can be", desk, 1, 30000, -30000);
        due("THE TICK was 100", desk.tick(1), 100);
        duePlace("one TICK", desk, 0, -20100, 20100);
        due("THE TICK was 1", desk.tick(0), 1);
        duePlace("its x, y stayed", desk, 0, -20000, 20000);
        due("THE TICK was 0", desk.tick(99), 0);
        due("a POINT made at a TICK", desk.point(1, 2), 2);
        duePlace("is at its x, y", desk, 2, 1, 2);
        desk.move(0, 0, 0);
        duePlace("goes by 0, 0 again", desk, 0, -20000, 20000);
        due("u alone", desk.move(2, 3, 0), 1);
        duePlace("u alone", desk, 2, 1 + 99 * 3, 2);
        due("v alone", desk.move(2, 0, -3), 1);
        duePlace("v alone", desk, 2, 1, 2 - 99 * 3);
    }

    private static void sixtyPoints() {
        CHECK.part("terms 2: POINTS (60 at most), numbered from 0 on");
        DrawLabels desk = new DrawLabels();
        for (int p = 0; p < 60; p++) {
            due("number", desk.point(p, 100 - p), p);
            due("count", desk.count(0), p + 1);
        }
        due("61", desk.point(7, 7), FULL);
        due("61 again", desk.point(8, 8), FULL);
        due("count", desk.count(0), 60);
        for (int p = 0; p < 60; p++) {
            duePlace("POINT " + p, desk, p, p, 100 - p);
        }
        due("the last one is as good as others", desk.move(59, 1, 1), 1);
        due("in an OBJECT", desk.object(5, 59, 0, 59), 0);
        due("in THE CHAIN", desk.corner(59), 1);
        due("as a SOLID's", desk.solid(59, 1), 0);
        CHECK.dueFloat("as a float", desk.single(59, 0), 59f);
    }

    private static void fortyObjects() {
        CHECK.part("terms 2: OBJECTS (40 at most), numbered from 0 on");
        DrawLabels desk = new DrawLabels();
        for (int p = 0; p < 40; p++) {
            desk.point(2 * p, 10);
        }
        for (int o = 0; o < 40; o++) {
            due("number", desk.object(0, o, 0, 0), o);
            due("count", desk.count(1), o + 1);
        }
        due("41", desk.object(0, 0, 0, 0), FULL);
        due("count", desk.count(1), 40);
        due("the last one has a STYLE", desk.style(39, 2), 0);
        due("all are drawn", desk.draw(), 41);
        for (int o = 0; o < 40; o++) {
            due("X of OBJECT " + o, desk.mark(1 + o, 1), 2 * o);
        }
        due("STYLE of the last one", desk.mark(40, 3), 2);
        due("the last one has a LABEL", desk.label(39, 1), 0);
        due("the last one is not FALLEN", desk.fallen(39), 0);
        due("the last one has no MEASURE", desk.measure(39), 0);
    }

    private static void fortiethIsAnArea() {
        CHECK.part("terms 2: an AREA is one of the 40");
        DrawLabels desk = Check.deskWith(0, 0, 50, 0, 0, 50);
        for (int o = 0; o < 39; o++) {
            desk.object(1, 0, 1, 0);
        }
        due("OBJECT 39", Check.area(desk, 0, 1, 2), 39);
        due("MEASURE", desk.measure(39), 2500);
        due("41", desk.object(1, 0, 1, 0), FULL);
        due("41 as an AREA", Check.area(desk, 2, 1, 0), FULL);
        due("THE CHAIN stays", desk.corner(0), 4);
        due("MEASURE stays", desk.measure(39), 2500);
        due("count", desk.count(1), 40);
    }

    private static void stylesAtFirst() {
        CHECK.part("terms 2: a STYLE (0 .. 2; 0 at first)");
        DrawLabels desk = Check.deskWith(10, 10, 50, 20, 30, 60);
        for (int kind = 0; kind < 7; kind++) {
            desk.object(kind, 0, 1, 2);
        }
        Check.area(desk, 0, 1, 2);
        for (int o = 0; o < 8; o++) {
            due("at first", desk.style(o, 1), 0);
            due("1", desk.style(o, 2), 1);
            due("2", desk.style(o, 0), 2);
            due("0", desk.style(o, 0), 0);
        }
        for (int s = 0; s <= 2; s++) {
            desk.style(0, s);
            desk.style(1, s);
            desk.style(4, s);
            desk.style(7, s);
            desk.hatch(1000);
            desk.hatch(30);
            desk.hide(2, true);
            desk.hide(3, true);
            CHECK.dueText("drawn with STYLE " + s, Check.drawn(desk), "S 18 70 45 70 " + s + "/D 10 90 " + s
                    + "/S 10 90 50 80 " + s + "/C 10 90 41 1 " + s + "/A 50 80 4 2 0/T 30 85 2 0/");
        }
    }

    private static void strokesOfTicks() {
        CHECK.part("terms 2: n (1 .. 3) short strokes");
        for (int n = 1; n <= 3; n++) {
            DrawLabels desk = Check.deskWith(20, 20, 40, 20);
            due("TICKS", desk.object(6, 0, 1, n), 0);
            CHECK.dueText("n " + n, Check.drawn(desk), "T 30 80 " + n + " 0/");
        }
    }

    private static void chain() {
        CHECK.part("promises 7, 8: THE CHAIN, empty at first; AREA of 3 to 12 POINTS");
        DrawLabels desk = Check.deskWith(0, 0, 20, 0, 20, 20, 0, 20);
        due("empty at first", desk.area(), NOT);
        due("1", desk.corner(0), 1);
        due("1 is too few", desk.area(), NOT);
        due("2", desk.corner(1), 2);
        due("2 are too few", desk.area(), NOT);
        due("3", desk.corner(2), 3);
        due("3 are enough", desk.area(), 0);
        due("of these POINTS", desk.measure(0), 400);
        due("empty then", desk.area(), NOT);
        for (int i = 0; i < 12; i++) {
            due("how many", desk.corner(i % 4), i + 1);
        }
        due("13", desk.corner(0), FULL);
        due("12 are not too many", desk.area(), 1);
        due("three times round", desk.measure(1), 2400);
        due("empty then", desk.corner(3), 1);
        due("the same one twice", desk.corner(3), 2);
        due("the same one thrice", desk.corner(3), 3);
        due("is an AREA", desk.area(), 2);
        due("that is FALLEN", desk.fallen(2), 1);
    }

    private static void chainIsCopied() {
        CHECK.part("promise 8: an AREA has its own POINTS");
        DrawLabels desk = Check.deskWith(0, 0, 20, 0, 20, 20, 50, 0, 50, 90);
        Check.area(desk, 0, 1, 2);
        Check.area(desk, 0, 3, 4, 2);
        due("first", desk.measure(0), 400);
        due("second", desk.measure(1), 50 * 90 + 50 * 20 - 20 * 90);
        desk.corner(4);
        desk.corner(4);
        due("THE CHAIN goes on without them", desk.measure(0), 400);
    }

    private static void dueWindow(DrawLabels desk, int left, int right, int bottom, int top) {
        due("window", desk.window(left, right, bottom, top), 1);
        due("LEFT", desk.side(0), left);
        due("RIGHT", desk.side(1), right);
        due("BOTTOM", desk.side(2), bottom);
        due("TOP", desk.side(3), top);
    }

    private static void window() {
        CHECK.part("terms 3: -40000 .. 40000, LEFT not above RIGHT, BOTTOM not above TOP");
        DrawLabels desk = new DrawLabels();
        dueWindow(desk, -40000, -40000, 40000, 40000);
        dueWindow(desk, 40000, 40000, -40000, -40000);
        dueWindow(desk, -40000, 40000, -40000, 40000);
        dueWindow(desk, 0, 0, 0, 0);
        dueWindow(desk, 1, 2, 3, 4);
    }

    private static void dueSheet(int w, int h, int margin, int up, int down) {
        DrawLabels desk = new DrawLabels();
        due("sheet", desk.sheet(w, h, margin), 1);
        due("UP", desk.scale(true), up);
        due("DOWN", desk.scale(false), down);
        desk.draw();
        CHECK.dueText("octets", Check.octets(desk), "F " + w + " " + h + "/");
    }

    private static void sheet() {
        CHECK.part("terms 3: W, H 16 .. 400, MARGIN 0 .. 7");
        dueSheet(16, 16, 0, 4, 25);
        dueSheet(16, 16, 7, 1, 50);
        dueSheet(400, 400, 0, 4, 1);
        dueSheet(400, 400, 7, 193, 50);
        dueSheet(16, 400, 1, 7, 50);
        dueSheet(400, 16, 1, 7, 50);
        dueSheet(17, 400, 0, 17, 100);
        dueSheet(399, 17, 0, 17, 100);
    }

    private static void dueScale(String name, DrawLabels desk, int up, int down) {
        due(name + " UP", desk.scale(true), up);
        due(name + " DOWN", desk.scale(false), down);
        due(name + " CODE", desk.code(), 0);
    }

    private static void scale() {
        CHECK.part("terms 3: the lesser of both, in least terms");
        DrawLabels desk = new DrawLabels();
        dueScale("at first", desk, 1, 1);
        desk.window(0, 100, 0, 101);
        dueScale("by height", desk, 100, 101);
        desk.window(0, 101, 0, 100);
        dueScale("by width", desk, 100, 101);
        desk.window(0, 101, 0, 102);
        dueScale("by height, both below 1", desk, 50, 51);
        desk.sheet(200, 100, 0);
        desk.window(0, 20, 0, 10);
        dueScale("both alike", desk, 10, 1);
        desk.window(0, 1, 0, 1);
        desk.sheet(400, 399, 0);
        dueScale("greatest", desk, 399, 1);
        desk.window(-40000, 40000, -40000, 40000);
        desk.sheet(16, 17, 7);
        dueScale("least", desk, 1, 40000);
        desk.window(-40000, 39999, -40000, 39998);
        dueScale("a prime below", desk, 2, 79999);
        desk.window(0, 3, 0, 80000 / 2);
        desk.sheet(400, 400, 0);
        dueScale("a narrow one", desk, 1, 100);
    }

    private static void noScale() {
        CHECK.part("terms 3: there is none, if one of both is divided by 0");
        int[][] windows = {{5, 5, 0, 9}, {0, 9, 5, 5}, {5, 5, 5, 5}, {-20000, -20000, 0, 9}, {0, 9, 20000, 20000}};
        for (int[] w : windows) {
            DrawLabels desk = Check.deskWith(w[0], w[2]);
            desk.object(0, 0, 0, 0);
            desk.label(0, 1);
            desk.grid(1);
            desk.window(w[0], w[1], w[2], w[3]);
            due("UP", desk.scale(true), 0);
            due("CODE", desk.code(), 6);
            desk.reach(0);
            due("DOWN", desk.scale(false), 0);
            due("CODE", desk.code(), 6);
            desk.reach(0);
            CHECK.dueFloat("X", desk.single(0, 0), 0f);
            due("CODE", desk.code(), 6);
            desk.reach(0);
            CHECK.dueFloat("Y", desk.single(0, 1), 0f);
            due("CODE", desk.code(), 6);
            CHECK.dueFloat("the square needs none", desk.single(0, 2), (float) ((long) w[0] * w[0] + (long) w[2] * w[2]));
            due("CODE", desk.code(), 0);
            due("draw", desk.draw(), 0);
            due("CODE", desk.code(), 6);
            CHECK.dueText("F W H is all", Check.octets(desk), "F 100 100/");
        }
        DrawLabels thin = new DrawLabels();
        thin.window(5, 6, -9, -8);
        due("a width of 1 is enough", thin.draw(), 1);
        due("CODE", thin.code(), 0);
    }

    private static void gridSteps() {
        CHECK.part("terms 4: THE GRID of a step g above 0 (0 at first)");
        DrawLabels desk = new DrawLabels();
        CHECK.dueText("none at first", Check.drawn(desk), "");
        due("was 0", desk.grid(40000), 0);
        desk.window(-40000, 40000, -40000, 40000);
        CHECK.dueText("the greatest step", Check.drawn(desk), "S 0 100 0 0 1/S 50 100 50 0 1/S 100 100 100 0 1/"
                + "S 0 100 100 100 1/S 0 50 100 50 1/S 0 0 100 0 1/");
        due("was 40000", desk.grid(1), 40000);
        desk.window(7, 8, -8, -7);
        CHECK.dueText("the least step", Check.drawn(desk), "S 0 100 0 0 1/S 100 100 100 0 1/S 0 100 100 100 1/S 0 0 100 0 1/");
        due("was 1", desk.grid(0), 1);
        CHECK.dueText("none again", Check.drawn(desk), "");
    }

    private static void hatchSteps() {
        CHECK.part("terms 4: THE HATCH (10 .. 1000; 10 at first)");
        DrawLabels desk = Check.deskWith(0, -2500, 2500, -2500, 2500, 2500, 0, 2500);
        Check.area(desk, 0, 1, 2, 3);
        desk.window(-2500, 2500, -2500, 2500);
        due("was 10", desk.hatch(1000), 10);
        CHECK.dueText("the greatest", Check.drawn(desk),
                "S 50 90 100 90 0/S 50 70 100 70 0/S 50 50 100 50 0/S 50 30 100 30 0/S 50 10 100 10 0/");
        due("was 1000", desk.hatch(10), 1000);
        due("the least: from -2500 to 2490, and F", desk.draw(), 501);
    }

    /** A desk with a flat triangle, whose far corner is at x, y, z, times m. */
    private static DrawLabels corner(int m, int x, int y, int z) {
        DrawLabels desk = Check.deskWith(0, 0);
        desk.window(-20000, 20000, -20000, 20000);
        desk.sheet(400, 400, 0);
        desk.solid(0, m);
        desk.vertex(0, 0, 0, 0);
        desk.vertex(0, x, y, z);
        desk.vertex(0, 0, 0, 1);
        desk.face(0, 3, 0x210);
        return desk;
    }

    private static void solids() {
        CHECK.part("terms 4: SOLIDS (4 at most), numbered from 0 on, m times as great (1 .. 50)");
        DrawLabels desk = Check.deskWith(10, 10, 20, 20, 30, 30, 40, 40);
        for (int s = 0; s < 4; s++) {
            due("number", desk.solid(s, 1 + s), s);
            due("count", desk.count(2), s + 1);
            desk.vertex(s, 0, 0, 0);
            desk.vertex(s, 1, 0, 0);
            desk.vertex(s, 0, 1, 0);
            desk.face(s, 3, 0x210);
        }
        due("5", desk.solid(0, 1), FULL);
        due("count", desk.count(2), 4);
        CHECK.dueText("all by number", Check.drawn(desk), "S 10 90 11 90 0/S 10 90 10 89 0/S 11 90 10 89 0/"
                + "S 20 80 22 80 0/S 20 80 20 78 0/S 22 80 20 78 0/S 30 70 33 70 0/S 30 70 30 67 0/S 33 70 30 67 0/"
                + "S 40 60 44 60 0/S 40 60 40 56 0/S 44 60 40 56 0/");
        // Vertex 2 is at the place of vertex 0, so the edges are 0 1 and 1 2.
        CHECK.dueText("m 1", Check.drawn(corner(1, 100, -100, 0)), "S 200 200 201 201 1/S 201 201 200 200 1/");
        CHECK.dueText("m 50", Check.drawn(corner(50, 100, -100, 0)), "S 200 200 250 250 1/S 250 250 200 200 1/");
    }

    private static void vertices() {
        CHECK.part("terms 4: up to 12 VERTICES x, y, z (-100 .. 100)");
        DrawLabels desk = Check.deskWith(50, 50, 0, 0);
        desk.solid(0, 1);
        desk.solid(1, 1);
        for (int k = 0; k < 12; k++) {
            due("number", desk.vertex(0, k, k % 2, 0), k);
        }
        due("13", desk.vertex(0, 1, 1, 1), FULL);
        due("13 again", desk.vertex(0, 1, 1, 1), FULL);
        due("of another SOLID", desk.vertex(1, 9, 9, 9), 0);
        due("the last ones in a FACE", desk.face(0, 3, 0xba9), 1);
        CHECK.dueText("drawn", Check.drawn(desk), "S 59 49 60 50 0/S 59 49 61 49 0/S 60 50 61 49 0/");
        CHECK.dueText("the greatest in view 0", Check.drawn(corner(50, 100, 100, 100)),
                "S 200 200 250 150 1/S 250 150 200 200 1/");
        DrawLabels low = corner(50, -100, -100, -100);
        CHECK.dueText("the least in view 0", Check.drawn(low), "S 200 200 150 250 1/S 150 250 200 200 1/");
        low.view(1);
        // z -100 is q 100.
        CHECK.dueText("the least in view 1", Check.drawn(low), "S 200 200 150 150 0/S 200 200 200 201 0/S 150 150 200 201 0/");
    }

    private static void faces() {
        CHECK.part("terms 4: up to 10 FACES of 3 to 6 VERTICES");
        DrawLabels desk = Check.deskWith(50, 50, 0, 0);
        desk.solid(0, 1);
        desk.solid(1, 1);
        for (int k = 0; k < 12; k++) {
            desk.vertex(0, k, k * k % 11, 0);
            desk.vertex(1, k, k, 0);
        }
        due("of 3", desk.face(0, 3, 0x210), 1);
        due("EDGES", desk.edge(0, -1, 0), 3);
        due("of 6", desk.face(0, 6, 0x876543), 2);
        due("EDGES", desk.edge(0, -1, 0), 9);
        due("the first one follows the last one: lesser", desk.edge(0, 4, 0), 3);
        due("the first one follows the last one: greater", desk.edge(0, 4, 1), 8);
        for (int f = 3; f <= 10; f++) {
            due("how many", desk.face(0, 4, 0xba98), f);
        }
        due("11", desk.face(0, 3, 0x420), FULL);
        due("EDGES", desk.edge(0, -1, 0), 13);
        due("in how many FACES", desk.edge(0, 12, 3), 8);
        due("of another SOLID", desk.face(1, 3, 0x210), 1);
        due("EDGES of it", desk.edge(1, -1, 0), 3);
    }

    private static void fullSolids() {
        CHECK.part("terms 4: SOLIDS that are full beside one another");
        DrawLabels desk = Check.deskWith(50, 50);
        for (int s = 0; s < 4; s++) {
            desk.solid(0, 1);
            for (int k = 0; k < 12; k++) {
                desk.vertex(s, k % 4 * 3, k / 4 * 3, 0);
            }
            // Even ones have faces that are seen, odd ones have not.
            for (int f = 0; f < 10; f++) {
                desk.face(s, 3, s % 2 == 0 ? 0x410 : 0x140);
            }
        }
        for (int s = 0; s < 4; s++) {
            due("EDGES", desk.edge(s, -1, 0), 3);
            for (int k = 0; k < 3; k++) {
                due("BEHIND", desk.edge(s, k, 2), s % 2);
                due("in how many FACES", desk.edge(s, k, 3), 10);
            }
        }
        due("drawn", desk.draw(), 13);
        DrawLabels far = Check.deskWith(20000, 20000);
        far.move(0, 100, 100);
        far.tick(100);
        far.solid(0, 50);
        far.vertex(0, 0, 0, 0);
        far.vertex(0, -100, 100, -100);
        far.vertex(0, 100, -100, 100);
        far.face(0, 3, 0x210);
        far.view(4);
        far.window(-40000, 40000, -40000, 40000);
        far.sheet(400, 400, 0);
        // Seen at 30000, 30000; 30000, 50000; 30000, 10000.
        CHECK.dueText("as far as can be", Check.drawn(far), "S 350 50 350 0 1/S 350 50 350 150 1/S 350 0 350 150 1/");
    }

    private static void views() {
        CHECK.part("terms 4: THE VIEW (0 .. 4; 0 at first)");
        DrawLabels desk = new DrawLabels();
        due("0 at first", desk.count(5), 0);
        due("was 0", desk.view(4), 0);
        due("is 4", desk.count(5), 4);
        due("was 4", desk.view(0), 4);
        due("is 0", desk.count(5), 0);
    }

    private static void letters() {
        CHECK.part("terms 5: n letters (1 .. 8), 6 n wide");
        for (int n = 1; n <= 8; n++) {
            DrawLabels desk = Check.deskWith(97 - 6 * n, 50, 98 - 6 * n, 50);
            desk.object(0, 0, 0, 0);
            desk.label(0, n);
            desk.draw();
            due("there is just room for " + n, desk.placed(0), 0);
            due("letters", desk.mark(2, 3), n);
            DrawLabels next = Check.deskWith(98 - 6 * n, 50);
            next.object(0, 0, 0, 0);
            next.label(0, n);
            next.draw();
            due("there is no room for " + n, next.placed(0), 1);
        }
    }

    private static void twentyLabels() {
        CHECK.part("terms 5: LABELS (20 at most), numbered from 0 on");
        DrawLabels desk = new DrawLabels();
        desk.sheet(400, 100, 0);
        desk.window(0, 400, 0, 100);
        for (int l = 0; l < 20; l++) {
            desk.point(20 * l, 50);
            desk.object(0, l, 0, 0);
            due("number", desk.label(l, 1), l);
            due("count", desk.count(3), l + 1);
        }
        due("21", desk.label(0, 1), FULL);
        due("count", desk.count(3), 20);
        due("draw", desk.draw(), 41);
        for (int l = 0; l < 20; l++) {
            due("LABEL " + l, desk.placed(l), 0);
            due("left", desk.mark(21 + l, 1), 20 * l + 3);
            due("its number", desk.mark(21 + l, 4), l);
        }
    }

    private static void groupsApart() {
        CHECK.part("terms 7: GROUPS 0 .. 5, none at first");
        DrawLabels desk = Check.deskWith(1, 1);
        for (int o = 0; o < 6; o++) {
            desk.object(0, 0, 0, 0);
        }
        for (int g = 0; g < 6; g++) {
            due("none at first", desk.paint(g, 1), 0);
            due("CODE", desk.code(), 1);
            due("put", desk.put(g, 0, 0), 0);
            due("CODE", desk.code(), 1);
        }
        for (int g = 0; g < 6; g++) {
            due("group", desk.group(g, 8, 64), 64);
            due("put", desk.put(g, 0, g), 1);
            due("put", desk.put(g, 63, 5 - g), 1);
        }
        for (int g = 0; g < 6; g++) {
            due("first of " + g, desk.member(g, 0), g);
            due("last of " + g, desk.member(g, 63), 5 - g);
        }
        due("anew", desk.group(3, 0, 2), 2);
        due("empty", desk.member(3, 0), 0);
        due("CODE", desk.code(), 1);
        due("the one ahead stays", desk.member(2, 63), 3);
        due("the one behind stays", desk.member(4, 0), 4);
    }

    private static void placesOfGroups() {
        CHECK.part("promise 34: n places, 0 .. 64");
        DrawLabels desk = Check.deskWith(1, 1);
        desk.object(0, 0, 0, 0);
        for (int n : new int[] {1, 2, 63, 64}) {
            due("n", desk.group(0, 0, n), n);
            for (int i = 0; i < n; i += n > 2 ? n - 1 : 1) {
                desk.member(0, i);
                due("nothing at first", desk.code(), 1);
                due("put", desk.put(0, i, 0), 1);
                due("there", desk.member(0, i), 0);
                due("CODE", desk.code(), 0);
            }
            due("behind the last one", desk.put(0, n, 0), 0);
            due("CODE", desk.code(), 3);
            due("ahead of the first one", desk.put(0, -1, 0), 0);
            due("CODE", desk.code(), 3);
        }
        due("no places", desk.group(0, 0, 0), 0);
        due("CODE", desk.code(), 0);
        due("is a GROUP, but has no place", desk.put(0, 0, NONE), 0);
        due("CODE", desk.code(), 3);
        due("all of none", desk.paint(0, 2), 0);
        due("CODE", desk.code(), 0);
        due("fewer places, then more", desk.group(0, 0, 2), 2);
        due("what was there is gone", desk.member(0, 0), 0);
        due("CODE", desk.code(), 1);
    }

    private static void emptyAgain() {
        CHECK.part("promise 34: in place of one before, with nothing in it");
        DrawLabels desk = Check.deskWith(1, 1);
        desk.object(0, 0, 0, 0);
        desk.group(0, 8, 64);
        for (int i = 0; i < 64; i++) {
            desk.put(0, i, 0);
        }
        desk.group(0, 8, 1);
        due("place 1 is gone", desk.member(0, 1), 0);
        due("CODE", desk.code(), 3);
        desk.group(0, 8, 64);
        for (int i = 0; i < 64; i++) {
            due("place " + i, desk.member(0, i), 0);
            due("CODE", desk.code(), 1);
        }
    }

    private static void paintedOnes() {
        CHECK.part("promise 37: all OBJECTS in GROUP g, and no other ones");
        DrawLabels desk = Check.deskWith(1, 1);
        for (int o = 0; o < 6; o++) {
            desk.object(0, 0, 0, 0);
        }
        desk.group(0, 8, 64);
        for (int i = 0; i < 64; i++) {
            desk.put(0, i, i % 2 == 0 ? 3 : 5);
        }
        due("64 places", desk.paint(0, 1), 64);
        desk.group(0, 8, 2);
        desk.put(0, 0, 1);
        desk.put(0, 1, 4);
        desk.group(1, 8, 1);
        desk.put(1, 0, 2);
        due("2 places", desk.paint(0, 2), 2);
        due("CODE", desk.code(), 0);
        int[] styles = {0, 2, 0, 1, 2, 1};
        for (int o = 0; o < 6; o++) {
            due("OBJECT " + o, desk.style(o, 0), styles[o]);
        }
        desk.put(0, 1, NONE);
        due("nothing at the last place", desk.paint(0, 1), 0);
        due("CODE", desk.code(), 1);
        due("the one ahead has it", desk.style(1, 0), 1);
        due("the one that was there does not", desk.style(4, 0), 0);
    }

    private static void kindsOfGroups() {
        CHECK.part("terms 7: OBJECTS of one KIND (0 .. 7), or of all (8)");
        DrawLabels desk = Check.deskWith(10, 10, 20, 20, 30, 10);
        for (int kind = 0; kind < 7; kind++) {
            desk.object(kind, 0, 1, 2);
        }
        Check.area(desk, 0, 1, 2);
        for (int kind = 0; kind <= 8; kind++) {
            desk.group(0, kind, 1);
            for (int o = 0; o < 8; o++) {
                boolean taken = kind == 8 || kind == o;
                due("KIND " + kind + " takes OBJECT " + o, desk.put(0, 0, o), taken ? 1 : 0);
                due("CODE", desk.code(), taken ? 0 : 2);
            }
            due("the last one taken is there", desk.member(0, 0), Math.min(kind, 7));
            due("nothing is of every KIND", desk.put(0, 0, NONE), 1);
            due("CODE", desk.code(), 0);
        }
    }
}
