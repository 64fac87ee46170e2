/**
 * The edges that the document's terms 1, 3, 4 and 6 name: what is rounded, what lies just on a side of THE WINDOW or just
 * beside it, what is one place only, what is FALLEN or HIDDEN, a way that parts two eighths, the 600th MARK.
 */
public final class DrawnEdgesTest {
    private static final int DOT = 0, PIECE = 1, LINE = 2, RAY = 3, CIRCLE = 4, ANGLE = 5, TICKS = 6;
    // The window, and the steps out of it over each of its sides.
    private static final int LEFT = 10, RIGHT = 50, BOTTOM = 20, TOP = 60;
    private static final Check CHECK = new Check("DrawnEdgesTest");

    public static void main(String[] args) {
        roundedPlaces();
        roundedRadius();
        roundedOnce();
        dots();
        piecesAtSides();
        piecesAtCorners();
        lines();
        rays();
        circlesFromOutside();
        circlesWithin();
        circlesAround();
        angles();
        middles();
        octantsOfTicks();
        kindsOfAngles();
        grid();
        hatchBetweenBottomAndTop();
        hatchBetweenLeftAndRight();
        sidesOfAreas();
        meetsOfAreas();
        fallenOnes();
        hiddenKinds();
        edgesOfSolids();
        edgesBehind();
        lostMarks();
        lostAreas();
        octets();
        digest();
        counts();
        CHECK.end();
    }

    private static void due(String call, long got, long want) {
        CHECK.due(call, got, want);
    }

    /** A desk on whose sheet a place of the window is at X = x - 10, Y = 60 - y. */
    private static DrawLabels desk(int... places) {
        DrawLabels desk = Check.deskWith(places);
        desk.window(LEFT, RIGHT, BOTTOM, TOP);
        desk.sheet(40, 40, 0);
        return desk;
    }

    /** What an object of points 0, 1, 2 at these places is drawn as. */
    private static void dueDrawn(String want, int kind, int... places) {
        DrawLabels desk = desk(places);
        desk.object(kind, 0, 1, 2);
        CHECK.dueText("KIND " + kind + " at " + java.util.Arrays.toString(places), Check.drawn(desk), want);
    }

    private static void dueCircle(String want, int window, int... places) {
        DrawLabels desk = Check.deskWith(places);
        desk.window(0, window, 0, window);
        desk.object(CIRCLE, 0, 1, 0);
        CHECK.dueText("CIRCLE at " + java.util.Arrays.toString(places), Check.drawn(desk), want);
    }

    private static void roundedPlaces() {
        CHECK.part("terms 1: ROUNDED to the nearest whole number, a half up");
        // X is x / 2, Y is 100 - y / 2; the circle's line goes through the window.
        dueCircle("C 1 99 71 1 0/", 200, 1, 3, 100, 104);
        dueCircle("C 0 100 71 1 0/", 200, -1, 1, 100, 100);
        dueCircle("C -1 101 72 1 0/", 200, -3, -1, 100, 100);
        dueCircle("C -1 0 71 1 0/", 200, -2, 201, 98, 100);
        dueCircle("C 101 -1 72 1 0/", 200, 201, 203, 100, 100);
        // X is x / 3, Y is 100 - y / 3.
        dueCircle("C 0 100 50 1 0/", 300, 1, 1, 151, 1);
        dueCircle("C 1 99 50 1 0/", 300, 2, 2, 152, 2);
        dueCircle("C 0 100 50 1 0/", 300, -1, -1, 149, -1);
        dueCircle("C -1 101 51 1 0/", 300, -2, -2, 150, 0);
        dueCircle("C -1 101 50 1 0/", 300, -4, -4, 146, -4);
        dueCircle("C -2 102 51 1 0/", 300, -5, -5, 147, 0);
        dueCircle("C 0 0 50 1 0/", 300, 1, 301, 151, 301);
        dueCircle("C 0 -1 50 1 0/", 300, 1, 302, 151, 300);
    }

    private static void roundedRadius() {
        CHECK.part("terms 4: the distance times UP / DOWN, ROUNDED");
        dueCircle("C 50 50 1 0 0/", 200, 100, 100, 101, 100);
        dueCircle("C 50 50 1 0 0/", 200, 100, 100, 102, 100);
        dueCircle("C 50 50 1 0 0/", 200, 100, 100, 102, 102);
        dueCircle("C 50 50 2 0 0/", 200, 100, 100, 103, 100);
        dueCircle("C 50 50 49 0 0/", 200, 100, 100, 170, 170);
        dueCircle("C 50 50 50 0 0/", 200, 100, 100, 199, 100);
        dueCircle("C 50 50 50 0 0/", 200, 100, 100, 199, 101);
        dueCircle("C 50 50 0 0 0/", 1000, 500, 500, 504, 500);
        dueCircle("C 50 50 1 0 0/", 1000, 500, 500, 504, 503);
        dueCircle("C 50 50 1 0 0/", 1000, 500, 500, 510, 500);
    }

    private static void roundedOnce() {
        CHECK.part("terms 3: all as fractions, each ROUNDED once");
        DrawLabels desk = Check.deskWith(0, 0, 1, 1);
        desk.window(0, 3, 0, 1);
        desk.sheet(17, 21, 2);
        // UP / DOWN is 13 / 3: X is 17 / 2 + (x - 3 / 2) 13 / 3, Y is 21 / 2 - (y - 1 / 2) 13 / 3.
        desk.object(PIECE, 0, 1, 0);
        CHECK.dueText("halves of sheet and window", Check.drawn(desk), "S 2 13 6 8 0/");
        CHECK.dueFloat("X of 0", desk.single(0, 0), 2f);
        CHECK.dueFloat("X of 1", desk.single(1, 0), 19f / 3f);
        CHECK.dueFloat("Y of 0", desk.single(0, 1), 38f / 3f);
        CHECK.dueFloat("Y of 1", desk.single(1, 1), 25f / 3f);
        // The piece leaves the window at x = 0, y = 1 / 3; 100 - 1 / 3 . 100 / 2 is 83 1 / 3.
        DrawLabels cut = Check.deskWith(-1, 0, 2, 1);
        cut.window(0, 2, 0, 2);
        cut.object(PIECE, 0, 1, 0);
        CHECK.dueText("a fraction of a place", Check.drawn(cut), "S 0 83 100 50 0/");
        // Cut at x = 1 / 2, which is X 0.25; a place rounded first would be at X 1.
        DrawLabels half = Check.deskWith(0, -1, 1, 1);
        half.window(0, 200, 0, 200);
        half.object(PIECE, 0, 1, 0);
        CHECK.dueText("not rounded ahead of the sheet", Check.drawn(half), "S 0 100 1 100 0/");
        // Cut at y = 40.5 and 50.5, and at x = 20.5 and 21.5.
        dueDrawn("S 0 20 40 10 0/", LINE, 8, 40, 12, 41);
        dueDrawn("S 0 20 2 19 0/", PIECE, 8, 40, 12, 41);
        dueDrawn("S 2 19 0 20 0/", PIECE, 12, 41, 8, 40);
        dueDrawn("S 11 40 11 38 0/", PIECE, 20, 18, 21, 22);
        dueDrawn("S 12 0 11 2 0/", PIECE, 22, 62, 21, 58);
    }

    private static void dots() {
        CHECK.part("terms 3: IT HAS a place that is not outside");
        dueDrawn("D 0 20 0/", DOT, LEFT, 40);
        dueDrawn("D 40 20 0/", DOT, RIGHT, 40);
        dueDrawn("D 20 40 0/", DOT, 30, BOTTOM);
        dueDrawn("D 20 0 0/", DOT, 30, TOP);
        dueDrawn("D 0 40 0/", DOT, LEFT, BOTTOM);
        dueDrawn("D 40 0 0/", DOT, RIGHT, TOP);
        dueDrawn("", DOT, LEFT - 1, 40);
        dueDrawn("", DOT, RIGHT + 1, 40);
        dueDrawn("", DOT, 30, BOTTOM - 1);
        dueDrawn("", DOT, 30, TOP + 1);
        dueDrawn("", DOT, LEFT - 1, TOP + 1);
    }

    private static void piecesAtSides() {
        CHECK.part("terms 4: a PIECE, be it one place");
        dueDrawn("S 0 20 0 20 0/", PIECE, 0, 40, LEFT, 40);
        dueDrawn("S 0 20 0 20 0/", PIECE, LEFT, 40, 0, 40);
        dueDrawn("", PIECE, 0, 40, LEFT - 1, 40);
        dueDrawn("", PIECE, LEFT - 1, 40, 0, 40);
        dueDrawn("S 40 20 40 20 0/", PIECE, RIGHT, 40, 90, 40);
        dueDrawn("S 40 20 40 20 0/", PIECE, 90, 40, RIGHT, 40);
        dueDrawn("", PIECE, RIGHT + 1, 40, 90, 40);
        dueDrawn("S 20 40 20 40 0/", PIECE, 30, 0, 30, BOTTOM);
        dueDrawn("", PIECE, 30, 0, 30, BOTTOM - 1);
        dueDrawn("S 20 0 20 0 0/", PIECE, 30, TOP, 30, 90);
        dueDrawn("", PIECE, 30, TOP + 1, 30, 90);
        CHECK.part("terms 4: a PIECE along a side");
        dueDrawn("S 0 40 0 0 0/", PIECE, LEFT, BOTTOM, LEFT, TOP);
        dueDrawn("", PIECE, LEFT - 1, BOTTOM, LEFT - 1, TOP);
        dueDrawn("S 40 0 40 40 0/", PIECE, RIGHT, 90, RIGHT, 0);
        dueDrawn("", PIECE, RIGHT + 1, 90, RIGHT + 1, 0);
        dueDrawn("S 0 40 40 40 0/", PIECE, 0, BOTTOM, 90, BOTTOM);
        dueDrawn("", PIECE, 0, BOTTOM - 1, 90, BOTTOM - 1);
        dueDrawn("S 40 0 0 0 0/", PIECE, 90, TOP, 0, TOP);
        dueDrawn("", PIECE, 90, TOP + 1, 0, TOP + 1);
        CHECK.part("terms 4: a PIECE ends at a and b");
        dueDrawn("S 0 40 40 0 0/", PIECE, LEFT, BOTTOM, RIGHT, TOP);
        dueDrawn("S 1 39 39 1 0/", PIECE, LEFT + 1, BOTTOM + 1, RIGHT - 1, TOP - 1);
        dueDrawn("S 40 0 0 40 0/", PIECE, RIGHT + 1, TOP + 1, LEFT - 1, BOTTOM - 1);
        dueDrawn("S 5 5 6 5 0/", PIECE, 15, 55, 16, 55);
        dueDrawn("", PIECE, 0, 0, 9, 19);
        dueDrawn("", PIECE, 0, 40, 5, 41);
    }

    private static void piecesAtCorners() {
        CHECK.part("terms 4: a PIECE, LINE, RAY through a corner alone, and past it");
        int[] kinds = {PIECE, LINE, RAY};
        for (int kind : kinds) {
            dueDrawn("S 0 40 0 40 0/", kind, 5, 25, 15, 15);
            dueDrawn("", kind, 4, 25, 14, 15);
            dueDrawn("S 0 0 0 0 0/", kind, 5, 55, 15, 65);
            dueDrawn("", kind, 5, 56, 15, 66);
            dueDrawn("S 40 40 40 40 0/", kind, 45, 15, 55, 25);
            dueDrawn("", kind, 45, 14, 55, 24);
            dueDrawn("S 40 0 40 0 0/", kind, 45, 65, 55, 55);
            dueDrawn("", kind, 45, 66, 55, 56);
            // At x = 10 these are a third above TOP, and two thirds below it.
            dueDrawn("", kind, 9, 60, 12, 61);
            dueDrawn("S 0 1 2 0 0/", kind, 9, 59, 12, 60);
        }
    }

    private static void lines() {
        CHECK.part("terms 4: a LINE is all through both, told from the way a to b");
        dueDrawn("S 0 20 40 20 0/", LINE, 30, 40, 31, 40);
        dueDrawn("S 40 20 0 20 0/", LINE, 31, 40, 30, 40);
        dueDrawn("S 0 20 40 20 0/", LINE, 0, 40, 1, 40);
        dueDrawn("S 0 20 40 20 0/", LINE, 90, 40, 91, 40);
        dueDrawn("S 20 40 20 0 0/", LINE, 30, 90, 30, 91);
        dueDrawn("S 20 0 20 40 0/", LINE, 30, 2, 30, 1);
        dueDrawn("S 0 40 0 0 0/", LINE, LEFT, 0, LEFT, 1);
        dueDrawn("", LINE, LEFT - 1, 0, LEFT - 1, 1);
        dueDrawn("S 40 40 40 0 0/", LINE, RIGHT, 0, RIGHT, 1);
        dueDrawn("", LINE, RIGHT + 1, 0, RIGHT + 1, 1);
        dueDrawn("S 0 40 40 40 0/", LINE, 0, BOTTOM, 1, BOTTOM);
        dueDrawn("", LINE, 0, BOTTOM - 1, 1, BOTTOM - 1);
        dueDrawn("S 0 0 40 0 0/", LINE, 0, TOP, 1, TOP);
        dueDrawn("", LINE, 0, TOP + 1, 1, TOP + 1);
        dueDrawn("S 0 40 0 40 0/", LINE, 5, 25, 6, 24);
        dueDrawn("S 0 40 0 40 0/", LINE, 16, 14, 15, 15);
    }

    private static void rays() {
        CHECK.part("terms 4: a RAY is all from a on through b");
        dueDrawn("S 20 20 40 20 0/", RAY, 30, 40, 31, 40);
        dueDrawn("S 20 20 0 20 0/", RAY, 30, 40, 29, 40);
        dueDrawn("S 20 20 40 20 0/", RAY, 30, 40, 90, 40);
        dueDrawn("S 0 20 40 20 0/", RAY, 0, 40, 1, 40);
        dueDrawn("", RAY, 1, 40, 0, 40);
        dueDrawn("S 0 20 0 20 0/", RAY, LEFT, 40, LEFT - 1, 40);
        dueDrawn("", RAY, LEFT - 1, 40, LEFT - 2, 40);
        dueDrawn("S 40 20 40 20 0/", RAY, RIGHT, 40, RIGHT + 1, 40);
        dueDrawn("", RAY, RIGHT + 1, 40, RIGHT + 2, 40);
        dueDrawn("S 20 40 20 40 0/", RAY, 30, BOTTOM, 30, BOTTOM - 1);
        dueDrawn("", RAY, 30, BOTTOM - 1, 30, BOTTOM - 2);
        dueDrawn("S 20 0 20 0 0/", RAY, 30, TOP, 30, TOP + 1);
        dueDrawn("", RAY, 30, TOP + 1, 30, TOP + 2);
        dueDrawn("S 0 20 0 0 0/", RAY, LEFT, 40, LEFT, 41);
        dueDrawn("S 0 40 0 40 0/", RAY, 5, 25, 6, 24);
        dueDrawn("", RAY, 5, 25, 4, 26);
        dueDrawn("S 40 0 40 0 0/", RAY, RIGHT, TOP, 51, 61);
    }

    private static void circlesFromOutside() {
        CHECK.part("terms 4: a CIRCLE of whose line THE WINDOW HAS some place");
        dueDrawn("C -10 20 10 1 0/", CIRCLE, 0, 40, 0, 50);
        dueDrawn("", CIRCLE, 0, 40, 0, 49);
        dueDrawn("C 50 20 10 1 0/", CIRCLE, 60, 40, 60, 50);
        dueDrawn("", CIRCLE, 60, 40, 60, 31);
        dueDrawn("C 20 50 10 1 0/", CIRCLE, 30, 10, 40, 10);
        dueDrawn("", CIRCLE, 30, 10, 39, 10);
        dueDrawn("C 20 -10 10 1 0/", CIRCLE, 30, 70, 20, 70);
        dueDrawn("", CIRCLE, 30, 70, 21, 70);
        dueDrawn("C -3 44 5 1 0/", CIRCLE, 7, 16, 2, 16);
        dueDrawn("", CIRCLE, 7, 16, 3, 18);
        dueDrawn("C 43 44 5 1 0/", CIRCLE, 53, 16, 58, 16);
        dueDrawn("", CIRCLE, 53, 16, 57, 18);
        dueDrawn("C -3 -4 5 1 0/", CIRCLE, 7, 64, 7, 69);
        dueDrawn("", CIRCLE, 7, 64, 3, 66);
        dueDrawn("C 43 -4 5 1 0/", CIRCLE, 53, 64, 53, 69);
        dueDrawn("", CIRCLE, 53, 64, 57, 62);
    }

    private static void circlesWithin() {
        CHECK.part("terms 4: part is 0, if THE WINDOW HAS all of that line");
        dueDrawn("C 20 20 20 0 0/", CIRCLE, 30, 40, 50, 40);
        dueDrawn("C 20 20 20 1 0/", CIRCLE, 30, 40, 50, 41);
        dueDrawn("C 10 20 10 0 0/", CIRCLE, 20, 40, 20, 50);
        dueDrawn("C 10 20 10 1 0/", CIRCLE, 20, 40, 21, 50);
        dueDrawn("C 30 20 10 0 0/", CIRCLE, 40, 40, 40, 50);
        dueDrawn("C 30 20 10 1 0/", CIRCLE, 40, 40, 39, 50);
        dueDrawn("C 20 30 10 0 0/", CIRCLE, 30, 30, 40, 30);
        dueDrawn("C 20 30 10 1 0/", CIRCLE, 30, 30, 40, 31);
        dueDrawn("C 20 10 10 0 0/", CIRCLE, 30, 50, 40, 50);
        dueDrawn("C 20 10 10 1 0/", CIRCLE, 30, 50, 40, 49);
        dueDrawn("C 0 20 1 1 0/", CIRCLE, LEFT, 40, LEFT + 1, 40);
        dueDrawn("C 40 0 1 1 0/", CIRCLE, RIGHT, TOP, RIGHT, TOP - 1);
    }

    private static void circlesAround() {
        CHECK.part("terms 4: a CIRCLE around THE WINDOW");
        dueDrawn("C 20 20 28 1 0/", CIRCLE, 30, 40, 50, 60);
        dueDrawn("", CIRCLE, 30, 40, 45, 64);
        dueDrawn("C 21 19 30 1 0/", CIRCLE, 31, 41, 52, 62);
        dueDrawn("", CIRCLE, 31, 41, 53, 61);
        dueDrawn("C 19 19 30 1 0/", CIRCLE, 29, 41, 50, 62);
        dueDrawn("", CIRCLE, 29, 41, 51, 61);
        dueDrawn("C 21 21 30 1 0/", CIRCLE, 31, 39, 52, 60);
        dueDrawn("", CIRCLE, 31, 39, 53, 59);
        dueDrawn("C 19 21 30 1 0/", CIRCLE, 29, 39, 50, 60);
        dueDrawn("", CIRCLE, 29, 39, 51, 59);
        dueDrawn("C -110 20 151 1 0/", CIRCLE, -100, 40, 50, 60);
        dueDrawn("", CIRCLE, -100, 40, 51, 50);
    }

    private static void angles() {
        CHECK.part("terms 4: an ANGLE whose b THE WINDOW HAS");
        int[][] inside = {{LEFT, 40}, {RIGHT, 40}, {30, BOTTOM}, {30, TOP}, {LEFT, BOTTOM}, {RIGHT, TOP}};
        for (int[] b : inside) {
            String want = "A " + (b[0] - 10) + " " + (60 - b[1]) + " 0 2 1/";
            dueDrawn(want, ANGLE, b[0] + 900, b[1], b[0], b[1], b[0], b[1] + 900);
        }
        int[][] outside = {{LEFT - 1, 40}, {RIGHT + 1, 40}, {30, BOTTOM - 1}, {30, TOP + 1}};
        for (int[] b : outside) {
            dueDrawn("", ANGLE, 30, 30, b[0], b[1], 31, 41);
        }
    }

    private static void middles() {
        CHECK.part("terms 4: TICKS whose middle (a fraction) THE WINDOW HAS");
        dueDrawn("T 0 20 2 0/", TICKS, LEFT - 5, 40, LEFT + 5, 40);
        dueDrawn("", TICKS, LEFT - 5, 40, LEFT + 4, 40);
        dueDrawn("T 1 20 2 0/", TICKS, LEFT - 5, 40, LEFT + 6, 40);
        dueDrawn("T 40 20 2 4/", TICKS, RIGHT + 5, 40, RIGHT - 5, 40);
        dueDrawn("", TICKS, RIGHT + 5, 40, RIGHT - 4, 40);
        dueDrawn("T 20 40 2 2/", TICKS, 30, BOTTOM - 5, 30, BOTTOM + 5);
        dueDrawn("", TICKS, 30, BOTTOM - 5, 30, BOTTOM + 4);
        dueDrawn("T 20 0 2 6/", TICKS, 30, TOP + 5, 30, TOP - 5);
        dueDrawn("", TICKS, 30, TOP + 5, 30, TOP - 4);
        dueDrawn("T 20 20 2 0/", TICKS, -19940, -19920, 20000, 20000);
    }

    private static void octantsOfTicks() {
        CHECK.part("terms 4: a way that parts two eighths is in the later one");
        int[][] ways = {{9, 0}, {9, 1}, {9, 8}, {9, 9}, {8, 9}, {1, 9}, {0, 9}, {-1, 9}, {-8, 9}, {-9, 9}, {-9, 8}, {-9, 1},
            {-9, 0}, {-9, -1}, {-9, -8}, {-9, -9}, {-8, -9}, {-1, -9}, {0, -9}, {1, -9}, {8, -9}, {9, -9}, {9, -8}, {9, -1}};
        for (int i = 0; i < 24; i++) {
            int x = ways[i][0];
            int y = ways[i][1];
            DrawLabels desk = desk(30 - x, 40 - y, 30 + x, 40 + y);
            desk.object(TICKS, 0, 1, 1);
            CHECK.dueText("TICKS along " + x + ", " + y, Check.drawn(desk), "T 20 20 1 " + i / 3 + "/");
            DrawLabels angle = desk(30 + x, 40 + y, 30, 40, 30 - x, 40 - y);
            angle.object(ANGLE, 0, 1, 2);
            CHECK.dueText("ANGLE along " + x + ", " + y, Check.drawn(angle), "A 20 20 " + i / 3 + " " + (i / 3 + 4) % 8 + " 3/");
        }
    }

    private static void kindsOfAngles() {
        CHECK.part("terms 4: k: less than right, right, more, opposite ways, the same way");
        dueDrawn("A 20 20 0 1 0/", ANGLE, 130, 40, 30, 40, 31, 140);
        dueDrawn("A 20 20 0 2 1/", ANGLE, 130, 40, 30, 40, 30, 140);
        dueDrawn("A 20 20 0 2 2/", ANGLE, 130, 40, 30, 40, 29, 140);
        dueDrawn("A 20 20 0 3 2/", ANGLE, 130, 40, 30, 40, -70, 41);
        dueDrawn("A 20 20 0 4 3/", ANGLE, 130, 40, 30, 40, -70, 40);
        dueDrawn("A 20 20 0 4 2/", ANGLE, 130, 40, 30, 40, -70, 39);
        dueDrawn("A 20 20 0 7 0/", ANGLE, 130, 40, 30, 40, 130, 39);
        dueDrawn("A 20 20 0 0 4/", ANGLE, 130, 40, 30, 40, 31, 40);
        dueDrawn("A 20 20 0 0 0/", ANGLE, 130, 40, 30, 40, 130, 41);
        dueDrawn("A 20 20 0 6 1/", ANGLE, 31, 40, 30, 40, 30, 39);
        dueDrawn("A 20 20 0 2 1/", ANGLE, 33, 41, 30, 40, 28, 46);
        dueDrawn("A 20 20 4 0 3/", ANGLE, 27, 39, 30, 40, 36, 42);
        dueDrawn("A 20 20 4 4 4/", ANGLE, 27, 39, 30, 40, 24, 38);
    }

    private static void dueGrid(String want, int step, int left, int right, int bottom, int top) {
        DrawLabels desk = new DrawLabels();
        desk.sheet(40, 40, 0);
        desk.window(left, right, bottom, top);
        desk.grid(step);
        CHECK.dueText("step " + step + " from " + left + ", " + bottom, Check.drawn(desk), want);
    }

    private static void grid() {
        CHECK.part("terms 4: each multiple of g (0 is one, too) that is not outside, rising");
        dueGrid("S 0 40 0 0 1/S 20 40 20 0 1/S 40 40 40 0 1/S 0 40 40 40 1/S 0 20 40 20 1/S 0 0 40 0 1/", 20, 20, 60, 40, 80);
        dueGrid("S 19 40 19 0 1/S 39 40 39 0 1/S 0 21 40 21 1/S 0 1 40 1 1/", 20, 21, 61, 41, 81);
        dueGrid("S 1 40 1 0 1/S 21 40 21 0 1/S 0 39 40 39 1/S 0 19 40 19 1/", 20, 19, 59, 39, 79);
        dueGrid("", 100, 1, 41, 59, 99);
        dueGrid("S 0 40 0 0 1/", 100, 0, 40, 59, 99);
        dueGrid("S 40 40 40 0 1/", 100, -40, 0, 59, 99);
        dueGrid("S 0 40 40 40 1/", 100, 59, 99, 0, 40);
        dueGrid("S 0 0 40 0 1/", 100, 59, 99, -40, 0);
        dueGrid("S 0 0 40 0 1/", 100, 1, 41, 60, 100);
        dueGrid("S 40 40 40 0 1/", 100, 60, 100, 1, 41);
        dueGrid("S 20 40 20 0 1/S 0 20 40 20 1/", 21, -20, 20, -20, 20);
        dueGrid("S 0 40 0 0 1/S 20 40 20 0 1/S 40 40 40 0 1/S 0 40 40 40 1/S 0 20 40 20 1/S 0 0 40 0 1/", 20, -60, -20, -80, -40);
        dueGrid("S 1 40 1 0 1/S 21 40 21 0 1/S 0 39 40 39 1/S 0 19 40 19 1/", 20, -61, -21, -81, -41);
        // A window higher than wide: the strokes go from side to side of the window, not of the sheet.
        dueGrid("S 10 40 10 0 1/S 30 40 30 0 1/S 10 40 30 40 1/S 10 20 30 20 1/S 10 0 30 0 1/", 20, 0, 20, 0, 40);
    }

    private static void dueArea(String name, String want, int hatch, int... places) {
        DrawLabels desk = desk(places);
        for (int p = 0; p < places.length / 2; p++) {
            desk.corner(p);
        }
        desk.area();
        desk.hatch(hatch);
        CHECK.dueText(name, Check.drawn(desk), want);
    }

    private static void hatchBetweenBottomAndTop() {
        CHECK.part("terms 4: each multiple y of THE HATCH not outside of BOTTOM .. TOP, rising");
        dueArea("BOTTOM and TOP themselves", "S 10 40 30 40 0/S 10 20 30 20 0/S 10 0 30 0 0/", 20, 20, 0, 40, 0, 40, 100, 20, 100);
        dueArea("none but these", "S 10 30 30 30 0/", 30, 20, 0, 40, 0, 40, 50, 20, 50);
        dueArea("just above BOTTOM, just below TOP", "S 10 39 30 39 0/S 10 18 30 18 0/", 21, 20, 0, 40, 0, 40, 61, 20, 61);
        dueArea("just below BOTTOM, just above TOP", "S 10 22 30 22 0/", 19, 20, 0, 40, 0, 40, 50, 20, 50);
        dueArea("just above TOP alone", "", 61, 20, 0, 40, 0, 40, 100, 20, 100);
        DrawLabels low = Check.deskWith(20, -90, 40, -90, 40, 90, 20, 90);
        low.window(LEFT, RIGHT, -20, 20);
        low.sheet(40, 40, 0);
        Check.area(low, 0, 1, 2, 3);
        low.hatch(20);
        CHECK.dueText("0 and below", Check.drawn(low), "S 10 40 30 40 0/S 10 20 30 20 0/S 10 0 30 0 0/");
        low.window(LEFT, RIGHT, -59, -19);
        CHECK.dueText("below 0 alone", Check.drawn(low), "S 10 21 30 21 0/S 10 1 30 1 0/");
    }

    private static void hatchBetweenLeftAndRight() {
        CHECK.part("terms 4: what is not outside of LEFT .. RIGHT, be it one place");
        dueArea("up to LEFT", "S 0 20 0 20 0/", 40, 0, 30, LEFT, 30, LEFT, 50, 0, 50);
        dueArea("beside LEFT", "", 40, 0, 30, LEFT - 1, 30, LEFT - 1, 50, 0, 50);
        dueArea("from RIGHT on", "S 40 20 40 20 0/", 40, RIGHT, 30, 90, 30, 90, 50, RIGHT, 50);
        dueArea("beside RIGHT", "", 40, RIGHT + 1, 30, 90, 30, 90, 50, RIGHT + 1, 50);
        dueArea("a fraction beside LEFT", "", 40, 0, 30, 9, 30, 10, 51, 0, 51);
        dueArea("a fraction over LEFT", "S 0 20 1 20 0/", 40, 0, 30, 9, 30, 12, 50, 0, 50);
        dueArea("a small fraction over LEFT", "S 0 20 0 20 0/", 40, 0, 29, 9, 29, 11, 50, 0, 50);
        dueArea("a fraction that is LEFT", "S 0 20 0 20 0/", 40, 0, 30, 9, 30, 11, 50, 0, 50);
        dueArea("a small fraction beside LEFT", "", 40, 0, 31, 9, 31, 11, 50, 0, 50);
        dueArea("a small fraction over RIGHT", "S 40 20 40 20 0/", 40, 90, 29, 51, 29, 49, 50, 90, 50);
        dueArea("a small fraction beside RIGHT", "", 40, 90, 31, 51, 31, 49, 50, 90, 50);
        dueArea("over LEFT", "S 0 20 1 20 0/", 40, 0, 30, 11, 30, 11, 50, 0, 50);
        dueArea("over RIGHT", "S 39 20 40 20 0/", 40, 49, 30, 90, 30, 90, 50, 49, 50);
        dueArea("over both", "S 0 20 40 20 0/", 40, 0, 30, 90, 30, 90, 50, 0, 50);
        dueArea("from LEFT to RIGHT", "S 0 20 40 20 0/", 40, LEFT, 30, RIGHT, 30, RIGHT, 50, LEFT, 50);
        dueArea("one place within", "S 20 20 20 20 0/", 40, 30, 40, 40, 55, 20, 55);
        dueArea("one place on LEFT", "S 0 20 0 20 0/", 40, 10, 40, 20, 55, 0, 55);
        dueArea("one place beside LEFT", "", 40, 9, 40, 20, 55, 0, 55);
    }

    private static void sidesOfAreas() {
        CHECK.part("terms 4: sides meet y, if one end's y is not above y, and the other end's is above it");
        dueArea("a lowest corner is met", "S 20 20 20 20 0/", 40, 30, 40, 40, 45, 20, 45);
        dueArea("a highest corner is not met", "", 40, 30, 40, 40, 35, 20, 35);
        dueArea("a lowest side is met by those beside it", "S 10 20 30 20 0/", 40, 20, 40, 40, 40, 30, 59);
        dueArea("a highest side is not met", "", 40, 20, 40, 40, 40, 30, 21);
        dueArea("a corner between is met once", "S 10 20 30 20 0/", 40, 20, 40, 30, 21, 40, 40, 30, 59);
        dueArea("one above", "S 10 20 20 20 0/", 40, 20, 39, 30, 39, 30, 41, 20, 41);
        dueArea("none above", "", 40, 20, 39, 30, 39, 30, 40, 20, 40);
        dueArea("the last side goes to the first corner", "S 10 20 30 20 0/", 40, 20, 30, 20, 50, 40, 50, 40, 30);
    }

    private static void meetsOfAreas() {
        CHECK.part("terms 4: the places, by x (as fractions, rising), two and two");
        // At y = 30: 12, 20 3 / 7, 20 4 / 7, 40.
        dueArea("in the order of the sides", "S 2 30 10 30 0/S 11 30 30 30 0/", 30,
                12, 25, 12, 36, 23, 36, 20, 29, 24, 36, 40, 36, 40, 25);
        dueArea("in another order", "S 2 30 10 30 0/S 11 30 30 30 0/", 30,
                24, 36, 40, 36, 40, 25, 12, 25, 12, 36, 23, 36, 20, 29);
        dueArea("the other way round", "S 2 30 10 30 0/S 11 30 30 30 0/", 30,
                20, 29, 23, 36, 12, 36, 12, 25, 40, 25, 40, 36, 24, 36);
        int[] zigzag = new int[24];
        for (int i = 0; i < 12; i++) {
            zigzag[2 * i] = 12 + 3 * i;
            zigzag[2 * i + 1] = i == 0 ? 20 : i % 2 == 0 ? 25 : 35;
        }
        // Sides meet y = 30 at 14, 16.5, 19.5, .. 43.5, and the last one at 34.
        dueArea("twelve of them", "S 4 30 7 30 0/S 10 30 13 30 0/S 16 30 19 30 0/S 22 30 24 30 0/S 25 30 28 30 0/S 31 30 34 30 0/",
                30, zigzag);
    }

    private static void fallenOnes() {
        CHECK.part("terms 2: FALLEN is, by where POINTS are now");
        int[] kinds = {PIECE, LINE, RAY, CIRCLE, TICKS};
        for (int kind : kinds) {
            DrawLabels desk = desk(30, 40, 30, 40, 31, 40, 30, 41);
            desk.object(kind, 0, 1, 1);
            desk.object(kind, 0, 0, 1);
            due("two POINTS at one place", desk.fallen(0), 1);
            due("one POINT twice", desk.fallen(1), 1);
            due("not drawn", desk.draw(), 1);
            desk.move(1, 1, 0);
            desk.tick(1);
            due("x unlike", desk.fallen(0), 0);
            due("one POINT twice still is", desk.fallen(1), 1);
            due("drawn", desk.draw(), 2);
            desk.move(1, 0, 1);
            due("y unlike", desk.fallen(0), 0);
            desk.tick(0);
            due("again", desk.fallen(0), 1);
        }
        DrawLabels dot = desk(30, 40);
        dot.object(DOT, 0, 0, 0);
        due("a DOT never", dot.fallen(0), 0);
        DrawLabels angle = desk(30, 40, 30, 40, 20, 40, 30, 50);
        int[][] due = {{0, 1, 2, 1}, {2, 1, 0, 1}, {0, 1, 0, 1}, {0, 2, 1, 0}, {2, 0, 3, 0}, {2, 0, 2, 0}, {3, 3, 2, 1}};
        for (int o = 0; o < due.length; o++) {
            angle.object(ANGLE, due[o][0], due[o][1], due[o][2]);
            due("ANGLE " + o, angle.fallen(o), due[o][3]);
        }
        due("not drawn", angle.draw(), 4);
        areasFall();
    }

    private static void areasFall() {
        CHECK.part("terms 2: an AREA whose MEASURE is 0");
        DrawLabels desk = desk(20, 30, 40, 30, 40, 50, 20, 50, 30, 30);
        int[][] areas = {{0, 4, 1}, {0, 2, 1, 3}, {0, 1, 0}, {0, 1, 2}, {2, 1, 0}, {0, 1, 2, 3}};
        int[] measures = {0, 0, 0, 400, -400, 800};
        for (int o = 0; o < areas.length; o++) {
            Check.area(desk, areas[o]);
            due("MEASURE of " + o, desk.measure(o), measures[o]);
            due("FALLEN " + o, desk.fallen(o), measures[o] == 0 ? 1 : 0);
        }
        // Hatched at y = 30, 40: three areas that are not fallen.
        due("drawn", desk.draw(), 7);
        desk.move(4, 0, 1);
        desk.tick(1);
        due("MEASURE 20 below 0", desk.measure(0), -20);
        due("no more", desk.fallen(0), 0);
        desk.move(2, 0, -20);
        due("a corner moved onto another one", desk.fallen(3), 1);
    }

    private static void hiddenKinds() {
        CHECK.part("terms 4: not those of a HIDDEN KIND");
        String[] drawn = {"D 20 20 0/", "S 20 20 25 20 0/", "S 20 40 20 0 0/", "S 25 20 0 20 0/", "C 20 20 5 0 0/",
            "A 20 20 0 2 1/", "T 23 20 1 0/", "S 20 20 25 20 0/"};
        for (int hidden = -1; hidden < 10; hidden++) {
            DrawLabels desk = desk(30, 40, 35, 40, 30, 45);
            desk.object(0, 0, 0, 0);
            desk.object(1, 0, 1, 0);
            desk.object(2, 0, 2, 0);
            desk.object(3, 1, 0, 0);
            desk.object(4, 0, 1, 0);
            desk.object(5, 1, 0, 2);
            desk.object(6, 0, 1, 1);
            Check.area(desk, 0, 1, 2);
            desk.hide(hidden, true);
            StringBuilder want = new StringBuilder(hidden == 7 ? "" : drawn[7]);
            for (int kind = 0; kind < 7; kind++) {
                want.append(hidden == kind ? "" : drawn[kind]);
            }
            CHECK.dueText("KIND " + hidden + " is HIDDEN", Check.drawn(desk), want.toString());
            due("fit", desk.fit(), hidden < 0 || hidden > 7 ? 8 : 7);
            desk.hide(hidden, false);
            due("fit again", desk.fit(), 8);
        }
    }

    /** A triangle of edges 0 1, 0 2, 1 2. */
    private static DrawLabels solid(int... places) {
        DrawLabels desk = desk(30, 40);
        desk.solid(0, 1);
        for (int i = 0; i + 2 < places.length; i += 3) {
            desk.vertex(0, places[i], places[i + 1], places[i + 2]);
        }
        desk.face(0, 3, 0x210);
        return desk;
    }

    private static void edgesOfSolids() {
        CHECK.part("terms 4: each EDGE whose ends are at two places, what THE WINDOW HAS of it");
        CHECK.dueText("two places of three", Check.drawn(solid(0, 0, 0, 5, 0, 0, 0, 0, 9)), "S 20 20 25 20 1/S 25 20 20 20 1/");
        CHECK.dueText("one place", Check.drawn(solid(0, 0, 0, 0, 0, 5, 0, 0, 9)), "");
        DrawLabels turned = solid(0, 0, 0, 0, 0, 5, 0, 0, 9);
        turned.view(1);
        CHECK.dueText("three places in another view", Check.drawn(turned), "S 20 20 20 25 1/S 20 20 20 29 1/S 20 25 20 29 1/");
        // The window goes from -20, -20 to 20, 20, as seen from the point.
        CHECK.dueText("one place on LEFT", Check.drawn(solid(-20, 0, 0, -30, 0, 0, -30, 5, 0)), "S 0 20 0 20 1/S 0 20 0 20 1/");
        CHECK.dueText("beside LEFT", Check.drawn(solid(-21, 0, 0, -30, 0, 0, -30, 5, 0)), "");
        CHECK.dueText("one place on RIGHT", Check.drawn(solid(20, 0, 0, 30, 0, 0, 30, 5, 0)), "S 40 20 40 20 0/S 40 20 40 20 0/");
        CHECK.dueText("beside RIGHT", Check.drawn(solid(21, 0, 0, 30, 0, 0, 30, 5, 0)), "");
        CHECK.dueText("one place on BOTTOM", Check.drawn(solid(0, -20, 0, 0, -30, 0, 9, -30, 0)), "S 20 40 20 40 0/S 20 40 20 40 0/");
        CHECK.dueText("beside BOTTOM", Check.drawn(solid(0, -21, 0, 0, -30, 0, 9, -30, 0)), "");
        CHECK.dueText("one place on TOP", Check.drawn(solid(0, 30, 0, 0, 20, 0, 9, 30, 0)), "S 20 0 20 0 0/S 20 0 20 0 0/");
        CHECK.dueText("beside TOP", Check.drawn(solid(0, 30, 0, 0, 21, 0, 9, 30, 0)), "");
        CHECK.dueText("from the lesser VERTEX to the greater", Check.drawn(solid(30, 0, 0, 0, 30, 0, 0, 0, 0)),
                "S 40 10 30 0 0/S 40 20 20 20 0/S 20 0 20 20 0/");
        DrawLabels hidden = solid(0, 0, 0, 5, 0, 0, 0, 5, 0);
        hidden.hide(8, true);
        CHECK.dueText("KIND 8 is HIDDEN", Check.drawn(hidden), "");
        hidden.hide(8, false);
        hidden.hide(9, true);
        CHECK.dueText("KIND 9 hides none that is SEEN", Check.drawn(hidden), "S 20 20 25 20 0/S 20 20 20 15 0/S 25 20 20 15 0/");
        DrawLabels behind = solid(0, 0, 0, 0, 5, 0, 5, 0, 0);
        CHECK.dueText("BEHIND", Check.drawn(behind), "S 20 20 20 15 1/S 20 20 25 20 1/S 20 15 25 20 1/");
        behind.hide(9, true);
        CHECK.dueText("KIND 9 hides those BEHIND", Check.drawn(behind), "");
    }

    private static void edgesBehind() {
        CHECK.part("terms 4: SEEN, if N . E is above 0; BEHIND, if no FACE in which it is one is SEEN");
        DrawLabels desk = desk(30, 40);
        desk.solid(0, 1);
        desk.vertex(0, 0, 0, 0);
        desk.vertex(0, 5, 0, 0);
        desk.vertex(0, 0, 5, 0);
        desk.vertex(0, 5, 5, 0);
        desk.face(0, 3, 0x210);
        desk.face(0, 3, 0x321);
        // The first face is seen, the second one is not: the edge 1 2 is in both.
        int[][] edges = {{0, 1, 0, 1}, {0, 2, 0, 1}, {1, 2, 0, 2}, {1, 3, 1, 1}, {2, 3, 1, 1}};
        due("how many", desk.edge(0, -1, 0), 5);
        for (int k = 0; k < 5; k++) {
            for (int what = 0; what < 4; what++) {
                due("EDGE " + k + " what " + what, desk.edge(0, k, what), edges[k][what]);
            }
        }
        CHECK.dueText("drawn", Check.drawn(desk),
                "S 20 20 25 20 0/S 20 20 20 15 0/S 25 20 20 15 0/S 25 20 25 15 1/S 20 15 25 15 1/");
        desk.hide(9, true);
        due("EDGES are there, be they HIDDEN", desk.edge(0, -1, 0), 5);
        CHECK.dueText("drawn", Check.drawn(desk), "S 20 20 25 20 0/S 20 20 20 15 0/S 25 20 20 15 0/");
        desk.face(0, 3, 0x312);
        due("a FACE more: EDGE 3 is not BEHIND", desk.edge(0, 3, 2), 0);
        due("a FACE more: in how many", desk.edge(0, 3, 3), 2);
        for (int view = 1; view < 3; view++) {
            desk.view(view);
            due("N . E is 0 in view " + view, desk.edge(0, 0, 2), 1);
        }
    }

    private static void lostMarks() {
        CHECK.part("terms 4: 600 at most; those behind are LOST");
        DrawLabels desk = Check.deskWith(200, 100, 204, 100, 201, 101);
        desk.sheet(400, 400, 0);
        desk.window(0, 400, 0, 196);
        desk.grid(1);
        // F, 401 upright strokes, 197 level ones.
        due("599", desk.draw(), 599);
        due("none LOST", desk.count(7), 0);
        desk.object(PIECE, 0, 1, 0);
        due("600", desk.draw(), 600);
        due("none LOST", desk.count(7), 0);
        due("the last one", desk.mark(599, 0), 'S');
        due("its STYLE", desk.mark(599, 5), 0);
        int octets = desk.count(8);
        int digest = desk.digest();
        desk.object(PIECE, 1, 0, 0);
        due("601", desk.draw(), 600);
        due("one LOST", desk.count(7), 1);
        due("MARKS", desk.count(6), 600);
        due("CODE", desk.code(), 0);
        due("it has no octets", desk.count(8), octets);
        due("it is not in the digest", desk.digest(), digest);
        due("it is no MARK", desk.mark(600, 0), DrawLabels.UNKNOWN);
        due("no octet of it", desk.octet(octets), DrawLabels.NONE);
        desk.object(DOT, 1, 0, 0);
        desk.object(CIRCLE, 0, 1, 0);
        desk.object(ANGLE, 0, 1, 2);
        desk.object(TICKS, 0, 1, 2);
        due("and more", desk.draw(), 600);
        due("five LOST", desk.count(7), 5);
        for (int o = 1; o < 6; o++) {
            desk.label(o, 1);
        }
        due("with LABELS", desk.draw(), 600);
        due("LABELS are LOST, too", desk.count(7), 10);
        due("but none is OUT, for they count as drawn", desk.count(9), 0);
        desk.grid(0);
        due("without the GRID", desk.draw(), 12);
        due("none LOST", desk.count(7), 0);
        desk.window(0, 398, 0, 198);
        desk.grid(1);
        // F, 399 upright strokes, 199 level ones: the first piece is the 600th mark again.
        desk.draw();
        due("the GRID again", desk.count(7), 10);
        desk.window(0, 400, 0, 198);
        desk.draw();
        due("the GRID itself is LOST at its end", desk.count(7), 12);
        desk.window(0, 1000, 0, 1000);
        desk.draw();
        due("upright strokes are LOST", desk.count(7), 1 + 2 * 1001 + 6 + 5 - 600);
        due("the 600th MARK is an upright one", desk.mark(599, 1), desk.mark(599, 3));
        due("from BOTTOM", desk.mark(599, 2), 400);
        due("to TOP", desk.mark(599, 4), 0);
    }

    private static void lostAreas() {
        CHECK.part("terms 4: LOST STROKES of AREAS and SOLIDS");
        DrawLabels desk = Check.deskWith(0, 0, 2000, 0, 2000, 2000, 0, 2000);
        desk.window(0, 2000, 0, 2000);
        for (int i = 0; i < 3; i++) {
            Check.area(desk, 0, 1, 2, 3);
        }
        // Hatched at 0, 10, .. 1990: 200 strokes each.
        due("draw", desk.draw(), 600);
        due("one LOST", desk.count(7), 1);
        due("the last one told is the 199th", desk.mark(599, 2), 1);
        desk.solid(0, 50);
        desk.vertex(0, 0, 0, 0);
        desk.vertex(0, 9, 0, 0);
        desk.vertex(0, 0, 9, 0);
        desk.face(0, 3, 0x210);
        desk.draw();
        due("EDGES are LOST", desk.count(7), 4);
        desk.hide(8, true);
        desk.object(DOT, 1, 0, 0);
        desk.draw();
        due("a DOT is LOST", desk.count(7), 2);
        desk.hide(7, true);
        due("AREAS are HIDDEN", desk.draw(), 2);
    }

    private static void octets() {
        CHECK.part("terms 6: a letter, each number behind a blank, - in front if it is below 0, then 10");
        DrawLabels desk = Check.deskWith(30, 40, 39, 40, 30, 45, -30, 140);
        desk.window(LEFT, RIGHT, BOTTOM, TOP);
        desk.sheet(100, 40, 0);
        desk.object(DOT, 0, 0, 0);
        desk.object(PIECE, 0, 1, 0);
        desk.object(ANGLE, 1, 0, 2);
        desk.object(TICKS, 0, 1, 3);
        desk.object(CIRCLE, 3, 0, 0);
        // On place 0 it takes the piece's end, so it goes to place 1.
        desk.label(0, 1);
        desk.draw();
        String want = "F 100 40\nD 50 20 0\nS 50 20 59 20 0\nA 50 20 0 2 1\nT 55 20 3 0\nC -10 -80 117 1 0\nW 52 9 1 0\n";
        for (int k = 0; k < want.length(); k++) {
            due("octet " + k, desk.octet(k), want.charAt(k));
        }
        due("how many", desk.count(8), want.length());
        DrawLabels zero = Check.deskWith(0, 0);
        zero.sheet(16, 16, 0);
        zero.window(0, 16, -16, 0);
        zero.object(DOT, 0, 0, 0);
        zero.draw();
        CHECK.dueText("0 is 0", Check.octets(zero), "F 16 16/D 0 0 0/");
        due("how many", zero.count(8), 16);
        DrawLabels wide = Check.deskWith(-20000, 0, 20000, 0);
        wide.move(0, -100, 0);
        wide.move(1, 100, 0);
        wide.tick(100);
        wide.window(29999, 30000, 0, 1);
        wide.sheet(400, 400, 0);
        wide.object(CIRCLE, 0, 1, 0);
        wide.draw();
        CHECK.dueText("eight figures", Check.octets(wide), "F 400 400/C -23999600 400 24000000 1 0/");
        due("how many", wide.count(8), 39);
    }

    private static void digest() {
        CHECK.part("promise 31: d is 17; 31 d and it (wrapping)");
        DrawLabels desk = new DrawLabels();
        due("no DRAWING", desk.digest(), 17);
        desk.sheet(16, 16, 0);
        desk.draw();
        // 17, then F, blank, 1, 6, blank, 1, 6, 10: beyond 2^31 behind the seventh.
        long exact = 17;
        for (char c : "F 16 16\n".toCharArray()) {
            exact = 31 * exact + c;
        }
        due("beyond an int", exact > Integer.MAX_VALUE ? 1 : 0, 1);
        due("wrapped", desk.digest(), (int) exact);
        desk.grid(9);
        desk.draw();
        int d = 17;
        int octets = desk.count(8);
        for (int k = 0; k < octets; k++) {
            d = 31 * d + desk.octet(k);
        }
        due("many", desk.digest(), d);
        desk.window(0, 0, 0, 5);
        desk.draw();
        due("without a SCALE", desk.digest(), (int) exact);
    }

    private static void counts() {
        CHECK.part("promise 32: of THE DRAWING (0 without one)");
        DrawLabels desk = Check.deskWith(30, 40);
        desk.object(DOT, 0, 0, 0);
        desk.label(0, 1);
        for (int what = 6; what < 12; what++) {
            due("without a DRAWING " + what, desk.count(what), 0);
        }
        desk.draw();
        int[] want = {3, 0, 32, 0, 0, 0};
        for (int what = 6; what < 12; what++) {
            due("drawn " + what, desk.count(what), want[what - 6]);
        }
        desk.point(1, 1);
        desk.object(DOT, 1, 0, 0);
        desk.label(1, 1);
        desk.hide(0, true);
        for (int what = 6; what < 12; what++) {
            due("of THE DRAWING, not of now " + what, desk.count(what), want[what - 6]);
        }
    }
}
