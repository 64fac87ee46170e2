import java.util.Arrays;

/**
 * The document's "What it is", and 1 to 4 of its "Terms", from their first line to their last: each part is named by the
 * document's own words, in its order, and has answers that were reckoned by hand; LabelTermsTest goes on with 5 to 7. What
 * lies at the edges is in the other tests.
 */
public final class TermsTest {
    private static final int DOT = 0, PIECE = 1, LINE = 2, RAY = 3, CIRCLE = 4, ANGLE = 5, TICKS = 6, AREA = 7;
    private static final int ALL_SOLIDS = 8, EDGES_BEHIND = 9;
    private static final int UNKNOWN = -100001, OUTSIDE = -100002, NOT = -100003, FULL = -100004;
    private static final Check CHECK = new Check("TermsTest");

    public static void main(String[] args) {
        numbers();
        refusals();
        points();
        objects();
        window();
        drawings();
        objectsDrawn();
        solids();
        CHECK.end();
    }

    private static void due(String call, long got, long want) {
        CHECK.due(call, got, want);
    }

    private static void dueDrawn(String name, DrawLabels desk, String want) {
        CHECK.dueText(name, Check.drawn(desk), want);
    }

    /** The letters of a new drawing. */
    private static String letters(DrawLabels desk) {
        int marks = desk.draw();
        StringBuilder row = new StringBuilder();
        for (int k = 0; k < marks; k++) {
            row.append((char) desk.mark(k, 0));
        }
        return row.toString();
    }

    /** An object of points 0, 1 and the last number at these places, drawn alone. */
    private static void dueAlone(String want, int kind, int last, int... places) {
        DrawLabels desk = Check.deskWith(places);
        desk.object(kind, 0, 1, last);
        dueDrawn("KIND " + kind + " at " + Arrays.toString(places), desk, want);
    }

    /** An area of all points of a desk. */
    private static int areaOf(DrawLabels desk) {
        for (int p = 0; p < desk.count(0); p++) {
            desk.corner(p);
        }
        return desk.area();
    }

    // ---- 1

    private static void numbers() {
        CHECK.part("All numbers are whole but where a fraction is told; that is ROUNDED to the nearest whole number, "
                + "a half up.");
        DrawLabels desk = Check.deskWith(1, 1, 3, 2, 5, 7);
        desk.window(0, 200, 0, 200);
        for (int p = 0; p < 3; p++) {
            desk.object(DOT, p, 0, 0);
        }
        // X is x / 2: 0.5, 1.5, 2.5; Y is 100 - y / 2: 99.5, 99, 96.5.
        dueDrawn("halves", desk, "D 1 100 0/D 2 99 0/D 3 97 0/");
        CHECK.part("An object is used for at most 512 calls after it has been made; what later calls answer is free.");
        DrawLabels used = new DrawLabels();
        used.point(10, 20);
        used.object(DOT, 0, 0, 0);
        for (int call = 3; call <= 510; call++) {
            due("call " + call, used.tick(call % 2), call == 3 ? 0 : (call + 1) % 2);
        }
        due("call 511", used.draw(), 2);
        due("call 512", used.mark(1, 2), 80);
    }

    // ---- refusals

    private static void refusals() {
        CHECK.part("REFUSALS, of several the first in this order: UNKNOWN (a POINT, OBJECT, SOLID, LABEL, MARK, EDGE that "
                + "there is not), OUTSIDE (a number not as told, also a KIND), NOT (not now), FULL.");
        DrawLabels desk = new DrawLabels();
        due("no POINT, and u", desk.move(0, 101, 0), UNKNOWN);
        due("no OBJECT, and a STYLE", desk.style(0, 3), UNKNOWN);
        due("no SOLID, and x", desk.vertex(0, 101, 0, 0), UNKNOWN);
        due("no LABEL", desk.placed(0), UNKNOWN);
        due("no MARK, and what", desk.mark(0, 7), UNKNOWN);
        due("no POINT, and a KIND", desk.object(AREA, 0, 0, 0), UNKNOWN);
        desk.point(0, 0);
        desk.solid(0, 1);
        due("no EDGE, and what", desk.edge(0, 0, 4), UNKNOWN);
        due("a KIND", desk.object(AREA, 0, 0, 0), OUTSIDE);
        for (int o = 0; o < 40; o++) {
            desk.object(DOT, 0, 0, 0);
        }
        due("a KIND, and full", desk.object(AREA, 0, 0, 0), OUTSIDE);
        desk.corner(0);
        desk.corner(0);
        due("not now, and full", desk.area(), NOT);
        desk.corner(0);
        due("full", desk.area(), FULL);

        CHECK.part("What is refused changes nothing.");
        due("OBJECTS", desk.count(1), 40);
        due("THE CHAIN stayed", desk.corner(0), 4);
        due("THE TICK, refused", desk.tick(101), OUTSIDE);
        due("THE TICK stayed", desk.tick(0), 0);

        CHECK.part("Methods that name CODES have no REFUSALS but UNKNOWN, OUTSIDE, where they tell so, and these leave "
                + "CODE as it was.");
        due("below 0", desk.group(0, 0, -1), 0);
        due("OUTSIDE", desk.group(6, 0, 1), OUTSIDE);
        due("UNKNOWN", desk.reach(40), UNKNOWN);
        due("CODE stayed", desk.code(), 4);
    }

    // ---- 2

    private static void points() {
        CHECK.part("POINTS (60 at most), numbered from 0 on: each has x, y (-20000 .. 20000), and goes by u, v (-100 .. 100; "
                + "0 at first) a TICK: at THE TICK t (0 .. 100; 0 at first) it is at x + t u, y + t v.");
        DrawLabels desk = new DrawLabels();
        for (int p = 0; p < 60; p++) {
            due("POINT " + p, desk.point(p % 2 == 0 ? 20000 : -20000, 3 * p), p);
        }
        due("POINT 60", desk.point(0, 0), FULL);
        due("x above", new DrawLabels().point(20001, 0), OUTSIDE);
        due("y below", new DrawLabels().point(0, -20001), OUTSIDE);
        due("u, v", desk.move(7, -100, 100), 1);
        due("u above", desk.move(7, 101, 0), OUTSIDE);
        due("v below", desk.move(7, 0, -101), OUTSIDE);
        due("x at TICK 0", desk.at(7, 0), -20000);
        due("0 at first", desk.tick(100), 0);
        due("x at TICK 100", desk.at(7, 0), -30000);
        due("y at TICK 100", desk.at(7, 1), 10021);
        due("u 0 at first", desk.at(8, 0), 20000);
        due("v 0 at first", desk.at(8, 1), 24);
        due("t above", desk.tick(101), OUTSIDE);
        due("t below", desk.tick(-1), OUTSIDE);
    }

    private static void objects() {
        CHECK.part("OBJECTS (40 at most), numbered from 0 on, have a KIND, POINTS (perhaps the same one twice), a STYLE "
                + "(0 .. 2; 0 at first).");
        DrawLabels desk = Check.deskWith(20, 20, 60, 50, 20, 80);
        for (int o = 0; o < 40; o++) {
            due("OBJECT " + o, desk.object(PIECE, 0, o % 2, 0), o);
        }
        due("OBJECT 40", desk.object(PIECE, 0, 1, 0), FULL);
        due("0 at first", desk.style(39, 2), 0);
        due("STYLE above", desk.style(39, 3), OUTSIDE);
        due("STYLE below", desk.style(39, -1), OUTSIDE);
        due("2 still", desk.style(39, 0), 2);
        kinds();
        fallen();
    }

    private static void kinds() {
        CHECK.part("KINDS: 0 DOT a. 1 PIECE a b: all from a to b. 2 LINE a b: all through both. 3 RAY a b: all from a on "
                + "through b. 4 CIRCLE a b: about a, through b. 5 ANGLE a b c: at b, from a to c. 6 TICKS a b n: n (1 .. 3) "
                + "short strokes at the middle of a and b. 7 AREA of 3 to 12 POINTS.");
        int[] places = {20, 20, 60, 50, 20, 80};
        dueAlone("D 20 80 0/", DOT, 0, places);
        dueAlone("S 20 80 60 50 0/", PIECE, 0, places);
        // y is 20 + (x - 20) 3 / 4: 5 at x = 0, 80 at x = 100.
        dueAlone("S 0 95 100 20 0/", LINE, 0, places);
        dueAlone("S 20 80 100 20 0/", RAY, 0, places);
        dueAlone("C 20 80 50 1 0/", CIRCLE, 0, places);
        // From b to a -40, -30; from b to c -40, 30.
        dueAlone("A 60 50 4 3 0/", ANGLE, 2, places);
        for (int n = 1; n <= 3; n++) {
            dueAlone("T 40 65 " + n + " 0/", TICKS, n, places);
        }
        DrawLabels desk = Check.deskWith(places);
        due("no strokes", desk.object(TICKS, 0, 1, 0), OUTSIDE);
        due("four strokes", desk.object(TICKS, 0, 1, 4), OUTSIDE);
        desk.corner(0);
        desk.corner(1);
        due("an AREA of 2", desk.area(), NOT);
        due("a third", desk.corner(2), 3);
        due("an AREA of 3", desk.area(), 0);
        for (int i = 1; i <= 12; i++) {
            due("corner " + i, desk.corner(i % 3), i);
        }
        due("corner 13", desk.corner(0), FULL);
        due("an AREA of 12", desk.area(), 1);
        // Four times round a triangle of 40 . 60 / 2, which MEASURE tells twice.
        due("MEASURE of 12", desk.measure(1), 4 * 2400);
    }

    private static void fallen() {
        CHECK.part("FALLEN is, by where POINTS are now: one of KIND 1, 2, 3, 4, 6 with a and b at one place; an ANGLE with a, "
                + "or c, at b's place; an AREA whose MEASURE is 0: the sum of xp yq - xq yp over its sides, from each POINT p "
                + "to the next one q (from the last one to the first).");
        // Point 1 comes to the place of point 0 at tick 10.
        DrawLabels desk = Check.deskWith(10, 10, 20, 10, 30, 40);
        desk.move(1, -1, 0);
        for (int kind = DOT; kind <= TICKS; kind++) {
            desk.object(kind, 0, 1, kind == TICKS ? 1 : 2);
        }
        desk.object(ANGLE, 2, 1, 0);
        desk.object(ANGLE, 0, 2, 1);
        int area = areaOf(desk);
        // 10 10 - 20 10, 20 40 - 30 10, 30 10 - 10 40.
        due("MEASURE", desk.measure(area), -100 + 500 - 100);
        CHECK.dueText("at TICK 0", fallenOnes(desk), "0000000000");
        desk.tick(10);
        CHECK.dueText("at TICK 10", fallenOnes(desk), "0111111101");
        due("MEASURE at TICK 10", desk.measure(area), 0);
    }

    private static String fallenOnes(DrawLabels desk) {
        StringBuilder row = new StringBuilder();
        for (int o = 0; o < desk.count(1); o++) {
            row.append(desk.fallen(o));
        }
        return row.toString();
    }

    // ---- 3

    private static void window() {
        CHECK.part("THE WINDOW: LEFT, RIGHT, BOTTOM, TOP (-40000 .. 40000, LEFT not above RIGHT, BOTTOM not above TOP; "
                + "0, 100, 0, 100 at first).");
        DrawLabels desk = new DrawLabels();
        int[] first = {0, 100, 0, 100};
        for (int what = 0; what < 4; what++) {
            due("side " + what, desk.side(what), first[what]);
        }
        due("the greatest", desk.window(-40000, 40000, -40000, 40000), 1);
        due("beyond", desk.window(-40001, 0, 0, 0), OUTSIDE);
        due("LEFT above RIGHT", desk.window(1, 0, 0, 1), OUTSIDE);
        due("BOTTOM above TOP", desk.window(0, 1, 1, 0), OUTSIDE);
        due("one place", desk.window(7, 7, -9, -9), 1);
        due("LEFT", desk.side(0), 7);
        due("TOP", desk.side(3), -9);

        CHECK.part("IT HAS a place that is not outside of these.");
        dueAlone("D 0 100 0/", DOT, 0, 0, 0);
        dueAlone("D 100 0 0/", DOT, 0, 100, 100);
        dueAlone("", DOT, 0, 101, 50);
        dueAlone("", DOT, 0, 50, -1);

        CHECK.part("THE SHEET is W wide, H high (16 .. 400; 100, 100 at first), with a MARGIN m (0 .. 7; 0 at first).");
        DrawLabels plain = new DrawLabels();
        plain.draw();
        CHECK.dueText("at first", Check.octets(plain), "F 100 100/");
        due("without a MARGIN 100 / 100", plain.scale(false), 1);
        due("W below", plain.sheet(15, 16, 0), OUTSIDE);
        due("H above", plain.sheet(16, 401, 0), OUTSIDE);
        due("MARGIN above", plain.sheet(16, 16, 8), OUTSIDE);
        due("16, 400, 7", plain.sheet(16, 400, 7), 1);
        plain.draw();
        CHECK.dueText("16, 400", Check.octets(plain), "F 16 400/");
        scale();
        onTheSheet();
    }

    private static void scale() {
        CHECK.part("THE SCALE is the lesser of (W - 2 m) / (RIGHT - LEFT) and (H - 2 m) / (TOP - BOTTOM), a fraction UP / DOWN "
                + "in least terms; there is none, if one of both is divided by 0.");
        DrawLabels desk = new DrawLabels();
        desk.sheet(60, 40, 5);
        desk.window(10, 50, 0, 20);
        // 50 / 40 and 30 / 20.
        due("UP", desk.scale(true), 5);
        due("DOWN", desk.scale(false), 4);
        desk.window(10, 50, 0, 45);
        // 50 / 40 and 30 / 45.
        due("UP of the other", desk.scale(true), 2);
        due("DOWN of the other", desk.scale(false), 3);
        desk.window(10, 10, 0, 45);
        due("no width", desk.scale(true), 0);
        due("CODE", desk.code(), 6);
        desk.window(10, 50, 3, 3);
        due("no height", desk.scale(false), 0);
        due("CODE", desk.code(), 6);
    }

    private static void onTheSheet() {
        CHECK.part("A place x, y (whole or a fraction) is ON THE SHEET at X = W / 2 + (x - (LEFT + RIGHT) / 2) UP / DOWN, "
                + "Y = H / 2 - (y - (BOTTOM + TOP) / 2) UP / DOWN, all as fractions, each ROUNDED once.");
        DrawLabels desk = Check.deskWith(10, 0, 11, 1, 12, 2, 13, 4);
        desk.sheet(60, 40, 5);
        desk.window(10, 50, 0, 20);
        for (int p = 0; p < 4; p++) {
            desk.object(DOT, p, 0, 0);
        }
        // X is 30 + (x - 30) 5 / 4: 5, 6.25, 7.5, 8.75; Y is 20 - (y - 10) 5 / 4: 32.5, 31.25, 30, 27.5.
        dueDrawn("whole places", desk, "D 5 33 0/D 6 31 0/D 8 30 0/D 9 28 0/");
        DrawLabels cut = Check.deskWith(9, 0, 13, 3);
        cut.sheet(60, 40, 5);
        cut.window(10, 50, 0, 20);
        cut.object(PIECE, 0, 1, 0);
        // It comes in at 10, 3 / 4, which is Y 31.5625, and ends at X 8.75, Y 28.75.
        dueDrawn("a fraction", cut, "S 5 32 9 29 0/");
    }

    // ---- 4

    private static void drawings() {
        CHECK.part("A DRAWING is a row of MARKS, each a letter and numbers, in this order (600 at most; those behind are LOST: "
                + "counted, and they count as drawn, but nothing else is told of them):");
        DrawLabels desk = Check.deskWith(50, 50);
        desk.object(DOT, 0, 0, 0);
        desk.label(0, 1);
        desk.window(0, 398, 0, 199);
        desk.grid(1);
        // F, 399 + 200 strokes; then the dot at X 13, Y 62, and its label.
        due("MARKS", desk.draw(), 600);
        due("the last one told", desk.mark(599, 0), 'S');
        due("none behind it", desk.mark(600, 0), UNKNOWN);
        due("LOST", desk.count(7), 2);
        due("the DOT counts as drawn", desk.placed(0) < 8 ? 1 : 0, 1);

        CHECK.part("F W H, always. Without a SCALE that is all (CODE 6); else:");
        DrawLabels bare = Check.deskWith(0, 0);
        bare.object(DOT, 0, 0, 0);
        bare.grid(50);
        bare.sheet(30, 40, 0);
        bare.window(0, 0, 0, 9);
        due("no SCALE", bare.draw(), 0);
        due("CODE", bare.code(), 6);
        CHECK.dueText("F alone", Check.octets(bare), "F 30 40/");
        bare.window(0, 30, 0, 40);
        due("with a SCALE", bare.draw(), 4);
        due("CODE", bare.code(), 0);

        CHECK.part("THE GRID of a step g above 0 (0 at first): STROKES of STYLE 1: for each multiple x of g (0 is one, too) "
                + "that is not outside of LEFT .. RIGHT, rising, from x, BOTTOM to x, TOP; then for each y likewise from LEFT, y "
                + "to RIGHT, y.");
        DrawLabels grid = new DrawLabels();
        grid.window(-50, 50, -20, 80);
        dueDrawn("none at first", grid, "");
        due("step 0 at first", grid.grid(40), 0);
        dueDrawn("step 40", grid, "S 10 100 10 0 1/S 50 100 50 0 1/S 90 100 90 0 1/"
                + "S 0 80 100 80 1/S 0 40 100 40 1/S 0 0 100 0 1/");
        order();
    }

    private static void order() {
        CHECK.part("AREAS by number, then the other OBJECTS by number; not those that are FALLEN, or of a HIDDEN KIND. "
                + "Then SOLIDS by number. Then LABELS.");
        DrawLabels desk = Check.deskWith(20, 20, 40, 20, 40, 45);
        desk.object(CIRCLE, 0, 1, 0);
        desk.object(DOT, 0, 0, 0);
        int area = areaOf(desk);
        desk.style(area, 2);
        desk.object(PIECE, 0, 0, 0);
        desk.solid(0, 1);
        desk.vertex(0, 1, 1, 0);
        desk.vertex(0, 2, 1, 0);
        desk.vertex(0, 1, 2, 0);
        desk.face(0, 3, 0x210);
        desk.label(1, 1);
        desk.grid(100);
        CHECK.dueText("all", letters(desk), "F" + "SSSS" + "SSS" + "CD" + "SSS" + "W");
        due("the AREA behind THE GRID", desk.mark(5, 5), 2);
        desk.hide(CIRCLE, true);
        CHECK.dueText("no CIRCLE", letters(desk), "F" + "SSSS" + "SSS" + "D" + "SSS" + "W");
        desk.hide(AREA, true);
        CHECK.dueText("no AREA", letters(desk), "F" + "SSSS" + "D" + "SSS" + "W");
        desk.hide(DOT, true);
        CHECK.dueText("no DOT", letters(desk), "F" + "SSSS" + "SSS");
    }

    private static void objectsDrawn() {
        CHECK.part("S X1 Y1 X2 Y2 s: a STROKE from one place to another one, of a STYLE s.");
        DrawLabels desk = Check.deskWith(10, 20, 30, 50);
        desk.object(PIECE, 0, 1, 0);
        desk.style(0, 2);
        dueDrawn("a PIECE", desk, "S 10 80 30 50 2/");
        desk.draw();
        int[] numbers = {'S', 10, 80, 30, 50, 2, 0};
        for (int what = 0; what <= 6; what++) {
            due("what " + what, desk.mark(1, what), numbers[what]);
        }
        areas();
        straightOnes();
        circles();
        angles();
        ticks();
    }

    private static void areas() {
        CHECK.part("An AREA: for each multiple y of THE HATCH (10 .. 1000; 10 at first) that is not outside of BOTTOM .. TOP, "
                + "rising: its sides meet y, if one end's y is not above y, and the other end's is above it; the places where "
                + "they do, by x (as fractions, rising), two and two: what lies between both and is not outside of "
                + "LEFT .. RIGHT, if anything does (be it one place), is a STROKE from the left to the right with the AREA's "
                + "STYLE.");
        DrawLabels triangle = Check.deskWith(20, 20, 60, 50, 20, 80);
        areaOf(triangle);
        triangle.style(0, 1);
        // From x = 20 to 20, 33 1 / 3, 46 2 / 3, 60, 46 2 / 3, 33 1 / 3; no side meets y = 80.
        dueDrawn("a triangle", triangle, "S 20 80 20 80 1/S 20 70 33 70 1/S 20 60 47 60 1/"
                + "S 20 50 60 50 1/S 20 40 47 40 1/S 20 30 33 30 1/");
        due("10 at first", triangle.hatch(25), 10);
        dueDrawn("a wider HATCH", triangle, "S 20 75 27 75 1/S 20 50 60 50 1/S 20 25 27 25 1/");
        due("9", triangle.hatch(9), OUTSIDE);
        due("1001", triangle.hatch(1001), OUTSIDE);
        triangle.hatch(1000);
        dueDrawn("none meets", triangle, "");
        // Two teeth at y = 25: from 10 to 30, and from 50 to 70.
        DrawLabels teeth = Check.deskWith(10, 20, 10, 40, 30, 30, 30, 20, 50, 20, 50, 40, 70, 30, 70, 20);
        areaOf(teeth);
        teeth.hatch(25);
        dueDrawn("two and two", teeth, "S 10 75 30 75 0/S 50 75 70 75 0/");
        teeth.window(30, 60, 0, 30);
        teeth.sheet(30, 30, 0);
        dueDrawn("one place at LEFT, and up to RIGHT", teeth, "S 0 5 0 5 0/S 20 5 30 5 0/");
    }

    private static void straightOnes() {
        CHECK.part("D X Y s: a DOT that THE WINDOW HAS.");
        DrawLabels dot = Check.deskWith(7, 9);
        dot.object(DOT, 0, 0, 0);
        dot.style(0, 1);
        dueDrawn("a DOT", dot, "D 7 91 1/");
        dot.window(8, 108, 0, 100);
        dueDrawn("outside", dot, "");

        CHECK.part("A PIECE, LINE, RAY: what of it THE WINDOW HAS, if anything (be it one place): a STROKE of its STYLE, from "
                + "the end that comes first, when one goes the way from a to b, to the other one.");
        // All on y = x + 60, which the window has from 0, 60 to 40, 100.
        dueAlone("S 0 40 40 0 0/", PIECE, 0, -20, 40, 60, 120);
        dueAlone("S 40 0 0 40 0/", PIECE, 0, 60, 120, -20, 40);
        dueAlone("S 0 40 40 0 0/", LINE, 0, 10, 70, 11, 71);
        dueAlone("S 40 0 0 40 0/", LINE, 0, 11, 71, 10, 70);
        dueAlone("S 10 30 40 0 0/", RAY, 0, 10, 70, 11, 71);
        dueAlone("S 11 29 0 40 0/", RAY, 0, 11, 71, 10, 70);
        dueAlone("S 100 50 100 50 0/", PIECE, 0, 100, 50, 150, 50);
        dueAlone("S 0 0 0 0 0/", LINE, 0, -1, 99, 1, 101);
        dueAlone("", PIECE, 0, 101, 50, 150, 50);
        dueAlone("", LINE, 0, -1, 100, 1, 102);
        dueAlone("", RAY, 0, 101, 50, 102, 50);
    }

    private static void circles() {
        CHECK.part("C X Y r part s: a CIRCLE of whose line THE WINDOW HAS some place: a's place, the distance of a and b times "
                + "UP / DOWN, ROUNDED; part is 0, if THE WINDOW HAS all of that line, else 1.");
        dueAlone("C 50 50 50 0 0/", CIRCLE, 0, 50, 50, 80, 90);
        dueAlone("C 50 50 51 1 0/", CIRCLE, 0, 50, 50, 50, 101);
        dueAlone("C -10 50 10 1 0/", CIRCLE, 0, -10, 50, 0, 50);
        dueAlone("", CIRCLE, 0, -10, 50, -1, 50);
        // Its line goes around all four corners, 70.71 from the middle.
        dueAlone("C 50 50 71 1 0/", CIRCLE, 0, 50, 50, 100, 100);
        dueAlone("", CIRCLE, 0, 50, 50, 100, 101);
        DrawLabels desk = Check.deskWith(100, 100, 103, 104);
        desk.object(CIRCLE, 0, 1, 0);
        desk.style(0, 2);
        desk.window(0, 200, 0, 200);
        dueDrawn("2.5 is 3", desk, "C 50 50 3 0 2/");
        desk.window(0, 250, 0, 250);
        dueDrawn("5 . 2 / 5", desk, "C 40 60 2 0 2/");
    }

    private static void angles() {
        CHECK.part("A X Y f t k: an ANGLE whose b THE WINDOW HAS: b's place; f and t are OCTANTS of the ways from b to a, from "
                + "b to c; k: 0 less than right, 1 right, 2 more, 3 both go opposite ways, 4 both go the same way.");
        dueAlone("A 50 50 0 1 0/", ANGLE, 2, 60, 50, 50, 50, 60, 60);
        dueAlone("A 50 50 0 2 1/", ANGLE, 2, 60, 50, 50, 50, 50, 60);
        dueAlone("A 50 50 0 3 2/", ANGLE, 2, 60, 50, 50, 50, 40, 60);
        dueAlone("A 50 50 0 4 3/", ANGLE, 2, 60, 50, 50, 50, 30, 50);
        dueAlone("A 50 50 0 0 4/", ANGLE, 2, 60, 50, 50, 50, 90, 50);
        dueAlone("", ANGLE, 2, 60, 50, 101, 50, 50, 60);
        dueAlone("A 100 50 4 0 3/", ANGLE, 2, 60, 49, 100, 50, 140, 51);

        CHECK.part("(OCTANT 0 .. 7: in which eighth of a turn a way lies, from that of x rising on, towards that of y rising; "
                + "a way that parts two eighths is in the later one: x rising itself 0, x and y rising alike 1, y rising "
                + "itself 2.)");
        int[] x = {9, 9, 9, 8, 0, -8, -9, -9, -9, -9, -9, -8, 0, 8, 9, 9};
        int[] y = {0, 8, 9, 9, 9, 9, 9, 8, 0, -8, -9, -9, -9, -9, -9, -8};
        for (int i = 0; i < 16; i++) {
            DrawLabels desk = Check.deskWith(50 + x[i], 50 + y[i], 50, 50, 50, 60);
            desk.object(ANGLE, 0, 1, 2);
            desk.draw();
            due("the way " + x[i] + ", " + y[i], desk.mark(1, 3), i / 2);
        }
    }

    private static void ticks() {
        CHECK.part("T X Y n o: TICKS whose middle (a fraction) THE WINDOW HAS: its place, n, the OCTANT of the way from a to b.");
        dueAlone("T 30 70 3 1/", TICKS, 3, 20, 20, 40, 40);
        dueAlone("T 30 70 1 5/", TICKS, 1, 40, 40, 20, 20);
        // The middle 30.5, 30.5.
        dueAlone("T 31 70 1 1/", TICKS, 1, 20, 20, 41, 41);
        dueAlone("T 100 50 2 0/", TICKS, 2, 80, 50, 120, 50);
        dueAlone("", TICKS, 2, 80, 50, 121, 50);
    }

    /** A solid of the faces z = 10, x = 10, y = 10 of a cube. */
    private static DrawLabels halfCube() {
        DrawLabels desk = Check.deskWith(40, 40);
        desk.solid(0, 1);
        for (int k = 0; k < 8; k++) {
            desk.vertex(0, 10 * (k & 1), 5 * (k & 2), 10 * (k >> 2));
        }
        desk.face(0, 4, 0x6754);
        desk.face(0, 4, 0x5731);
        desk.face(0, 4, 0x3762);
        return desk;
    }

    private static void solids() {
        CHECK.part("SOLIDS (4 at most), numbered from 0 on, stand at a POINT, m times as great (1 .. 50): up to 12 VERTICES "
                + "x, y, z (-100 .. 100), up to 10 FACES of 3 to 6 VERTICES each, all unlike.");
        DrawLabels desk = Check.deskWith(0, 0);
        for (int s = 0; s < 4; s++) {
            due("SOLID " + s, desk.solid(0, s == 0 ? 1 : 50), s);
        }
        due("SOLID 4", desk.solid(0, 1), FULL);
        due("m 0", desk.solid(0, 0), OUTSIDE);
        due("m 51", desk.solid(0, 51), OUTSIDE);
        for (int k = 0; k < 12; k++) {
            due("VERTEX " + k, desk.vertex(0, 100, -100, k), k);
        }
        due("VERTEX 12", desk.vertex(0, 0, 0, 0), FULL);
        due("z", desk.vertex(1, 0, 0, 101), OUTSIDE);
        for (int f = 1; f <= 10; f++) {
            due("FACE " + f, desk.face(0, f % 2 == 0 ? 3 : 6, 0xba9876), f);
        }
        due("FACE 11", desk.face(0, 3, 0x210), FULL);
        due("2 VERTICES", desk.face(0, 2, 0x10), OUTSIDE);
        due("7 VERTICES", desk.face(0, 7, 0x6543210), OUTSIDE);
        due("two alike", desk.face(0, 3, 0x121), NOT);
        views();
        seen();
        edges();
        hiddenSolids();
    }

    private static void views() {
        CHECK.part("THE VIEW (0 .. 4; 0 at first): a VERTEX is at X0 + m p, Y0 + m q, where X0, Y0 is the POINT's place now, "
                + "and p, q are: 0 x, y; 1 x, -z; 2 -z, y; 3 2 x - z, 2 y - z; 4 x - z, 2 y - x - z.");
        DrawLabels desk = Check.deskWith(40, 30);
        desk.move(0, 1, 2);
        desk.tick(5);
        desk.solid(0, 2);
        desk.vertex(0, 0, 0, 0);
        desk.vertex(0, 3, 5, 7);
        desk.vertex(0, 0, 0, 0);
        desk.face(0, 3, 0x210);
        // From the POINT at 45, 40 by twice 3, 5; 3, -7; -7, 5; -1, 3; -4, 0; and back; 0 2 is at one place.
        String[] ends = {"51 50", "51 74", "31 50", "43 54", "37 60"};
        due("0 at first", desk.view(0), 0);
        for (int k = 0; k <= 4; k++) {
            due("the view before", desk.view(k), Math.max(0, k - 1));
            dueDrawn("VIEW " + k, desk, "S 45 60 " + ends[k] + " 1/S " + ends[k] + " 45 60 1/");
        }
        due("VIEW 5", desk.view(5), OUTSIDE);
        due("VIEW -1", desk.view(-1), OUTSIDE);
    }

    private static void seen() {
        CHECK.part("A FACE is SEEN, if N . E is above 0: N is (second less first VERTEX) x (third less first), as vectors "
                + "multiply; E: 0 (0, 0, 1), 1 (0, 1, 0), 2 (1, 0, 0), 3 (1, 1, 2), 4 (1, 1, 1).");
        // Of 0, 0, 0; 1, 0, 0; 0, 1, 0; 0, 0, 1 the faces 0 1 2, 0 3 1, 0 2 3 have N (0, 0, 1), (0, 1, 0), (1, 0, 0).
        int[] packed = {0x210, 0x130, 0x320};
        String[] told = {"100", "010", "001", "111", "111"};
        for (int k = 0; k <= 4; k++) {
            String seen = "";
            String turned = "";
            for (int v : packed) {
                seen += seenOf(k, v, 1, 0, 0, 0, 1, 0);
                turned += seenOf(k, v >> 8 | v & 0xf0 | (v & 15) << 8, 1, 0, 0, 0, 1, 0);
            }
            CHECK.dueText("VIEW " + k, seen, told[k]);
            CHECK.dueText("VIEW " + k + ", the other way round", turned, "000");
        }
        // N is (-1, 0, 1); N . E is 1, 0, -1, 1, 0.
        int[] slanting = {1, 0, 0, 1, 0};
        for (int k = 0; k <= 4; k++) {
            due("a slanting FACE, VIEW " + k, seenOf(k, 0x210, 0, 1, 0, -1, 0, -1), slanting[k]);
            due("the other way round", seenOf(k, 0x120, 0, 1, 0, -1, 0, -1), k == 2 ? 1 : 0);
        }
    }

    /** Whether a face of the vertices 0, 0, 0; two told; 0, 0, 1 is seen. */
    private static int seenOf(int view, int packed, int... two) {
        DrawLabels desk = Check.deskWith(0, 0);
        desk.solid(0, 1);
        desk.vertex(0, 0, 0, 0);
        desk.vertex(0, two[0], two[1], two[2]);
        desk.vertex(0, two[3], two[4], two[5]);
        desk.vertex(0, 0, 0, 1);
        desk.face(0, 3, packed);
        desk.view(view);
        return 1 - desk.edge(0, 0, 2);
    }

    private static void edges() {
        CHECK.part("EDGES: two VERTICES that follow one another in some FACE (the first one follows the last one), each pair "
                + "once, by the lesser VERTEX, then by the greater; one is BEHIND, if no FACE in which it is one is SEEN.");
        DrawLabels desk = halfCube();
        String pairs = "";
        String behind = "";
        String faces = "";
        for (int k = 0; k < desk.edge(0, -1, 0); k++) {
            pairs += desk.edge(0, k, 0) + "" + desk.edge(0, k, 1) + " ";
            behind += desk.edge(0, k, 2);
            faces += desk.edge(0, k, 3);
        }
        CHECK.dueText("pairs", pairs, "13 15 23 26 37 45 46 57 67 ");
        CHECK.dueText("in how many FACES", faces, "111121122");
        // VIEW 0 sees z = 10 alone: 4 5, 4 6, 5 7, 6 7.
        CHECK.dueText("BEHIND", behind, "111110000");

        CHECK.part("Each EDGE whose ends are at two places: a STROKE of what THE WINDOW HAS of the PIECE from the lesser VERTEX "
                + "to the greater, STYLE 0, of one that is BEHIND 1.");
        // 1 5, 2 6, 3 7 are at one place each.
        dueDrawn("VIEW 0", desk, "S 50 60 50 50 1/S 40 50 50 50 1/"
                + "S 40 60 50 60 0/S 40 60 40 50 0/S 50 60 50 50 0/S 40 50 50 50 0/");
        desk.window(45, 145, 0, 100);
        dueDrawn("cut at x = 45", desk, "S 5 60 5 50 1/S 0 50 5 50 1/"
                + "S 0 60 5 60 0/S 5 60 5 50 0/S 0 50 5 50 0/");
    }

    private static void hiddenSolids() {
        CHECK.part("HIDDEN KINDS: 8 all SOLIDS, 9 EDGES that are BEHIND.");
        DrawLabels desk = halfCube();
        due("9", desk.hide(EDGES_BEHIND, true), 0);
        dueDrawn("none BEHIND", desk, "S 40 60 50 60 0/S 40 60 40 50 0/S 50 60 50 50 0/S 40 50 50 50 0/");
        due("8", desk.hide(ALL_SOLIDS, true), 0);
        dueDrawn("no SOLID", desk, "");
        due("9 again", desk.hide(EDGES_BEHIND, false), 1);
        dueDrawn("no SOLID still", desk, "");
        due("8 again", desk.hide(ALL_SOLIDS, false), 1);
        due("all of them", desk.draw(), 7);
    }
}
