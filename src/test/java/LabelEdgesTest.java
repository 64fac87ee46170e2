/**
 * The edges that the document's term 5 names: ANCHORS rounded down, what is OPEN, what a BOX takes, BOXES that just meet,
 * 6 or fewer LABELS against more, the order of the ways, LABELS of what is LOST, HIDDEN, FALLEN or outside.
 */
public final class LabelEdgesTest {
    private static final int DOT = 0, PIECE = 1, LINE = 2, RAY = 3, CIRCLE = 4, ANGLE = 5, TICKS = 6;
    private static final Check CHECK = new Check("LabelEdgesTest");

    public static void main(String[] args) {
        anchorsRoundedDown();
        anchorsOfAreas();
        anchorsOfOthers();
        outWithoutMark();
        outOfAreas();
        placesByLetters();
        openWithinTheSheet();
        costOfDots();
        costOfStrokes();
        costOfFractions();
        strokesAroundABox();
        otherMarksCostNothing();
        lostMarksCostNothing();
        labelsOfLostMarks();
        boxesSideBySide();
        boxesOneAboveTheOther();
        sixOrSeven();
        sixWithMarks();
        fewestOut();
        leastSum();
        leastRow();
        leastPlaceOfRounds();
        eachPlaceIsLeast();
        rounds();
        words();
        placed();
        sums();
        CHECK.end();
    }

    private static void due(String call, long got, long want) {
        CHECK.due(call, got, want);
    }

    /** Ticks whose middle is at x, y: something to put labels on that costs nothing. */
    private static int ticksAt(DrawLabels desk, int x, int y) {
        int a = desk.point(x - 1, y);
        int b = desk.point(x + 1, y);
        return desk.object(TICKS, a, b, 1);
    }

    /** A sheet so low that labels of its middle have the places 0 and 4 alone. */
    private static DrawLabels low() {
        DrawLabels desk = new DrawLabels();
        desk.sheet(48, 16, 0);
        desk.window(0, 48, 0, 16);
        return desk;
    }

    private static void duePlaces(String name, DrawLabels desk, String want) {
        desk.draw();
        StringBuilder row = new StringBuilder();
        for (int l = 0; l < desk.count(3); l++) {
            row.append(desk.placed(l));
        }
        CHECK.dueText(name, row.toString(), want);
    }

    /** The last mark that is drawn. */
    private static String last(DrawLabels desk) {
        String all = Check.drawn(desk);
        int end = all.length() - 1;
        return end < 0 ? "" : all.substring(all.lastIndexOf('/', end - 1) + 1, end);
    }

    private static void dueWord(String name, String want, DrawLabels desk, int o, int n) {
        desk.label(o, n);
        CHECK.dueText(name, last(desk), want);
    }

    private static void anchorsRoundedDown() {
        CHECK.part("ANCHOR of a PIECE, LINE, RAY: (X1 + X2) / 2, (Y1 + Y2) / 2, rounded down");
        // Place 0 of anchor ax, ay is ax + 3, ay - 4; strokes upright and level lie beside it, or cost the same on all.
        DrawLabels even = Check.deskWith(50, 99, 50, 1);
        dueWord("a whole middle", "W 53 46 1 0", even, even.object(PIECE, 0, 1, 0), 1);
        DrawLabels odd = Check.deskWith(50, 98, 50, 1);
        dueWord("Y half", "W 53 46 1 0", odd, odd.object(PIECE, 0, 1, 0), 1);
        DrawLabels back = Check.deskWith(50, 1, 50, 98);
        dueWord("Y half, the other way", "W 53 46 1 0", back, back.object(PIECE, 0, 1, 0), 1);
        DrawLabels across = Check.deskWith(20, 50, 81, 50);
        // Place 0 takes the stroke: place 1 is ax + 2, ay - 11.
        dueWord("X half", "W 52 39 1 0", across, across.object(PIECE, 0, 1, 0), 1);
        DrawLabels ray = Check.deskWith(1, 50, 2, 50);
        dueWord("a RAY from X 1 to 100", "W 52 39 1 0", ray, ray.object(RAY, 0, 1, 0), 1);
        DrawLabels line = Check.deskWith(1, 50, 2, 50);
        dueWord("a LINE from X 0 to 100", "W 52 39 1 0", line, line.object(LINE, 0, 1, 0), 1);
        DrawLabels one = Check.deskWith(100, 50, 200, 50);
        // One place at 100, 50: place 3 is ax - 2 - w, ay - 11.
        dueWord("one place", "W 92 39 1 0", one, one.object(PIECE, 0, 1, 0), 1);
    }

    /** Where the label of an area with these corners has its anchor, as place 0 or 5 tells it. */
    private static void dueArea(String name, String want, int window, int... places) {
        DrawLabels desk = Check.deskWith(places);
        desk.window(0, window, 0, window);
        // No hatch falls into it, so nothing costs.
        desk.hatch(1000);
        for (int p = 0; p < places.length / 2; p++) {
            desk.corner(p);
        }
        dueWord(name, want, desk, desk.area(), 1);
    }

    private static void anchorsOfAreas() {
        CHECK.part("ANCHOR of an AREA: the sums by how many they are, rounded down");
        dueArea("three", "W 33 46 1 0", 100, 20, 50, 30, 40, 40, 60);
        dueArea("a third more", "W 33 46 1 0", 100, 20, 50, 30, 40, 41, 60);
        dueArea("two thirds more", "W 33 46 1 0", 100, 20, 50, 30, 40, 42, 60);
        dueArea("a third less in y", "W 33 46 1 0", 100, 20, 50, 30, 40, 40, 59);
        dueArea("a third more in y", "W 33 45 1 0", 100, 20, 50, 30, 40, 40, 61);
        dueArea("sum -1 by 3", "W 2 46 1 0", 100, -10, 50, -5, 45, 14, 55);
        dueArea("sum -3 by 3", "W 2 46 1 0", 100, -10, 50, -7, 45, 14, 55);
        dueArea("sum -4 by 3", "W 1 46 1 0", 100, -10, 50, -8, 45, 14, 55);
        // Y are -10, 10, -1: of places with 0 .. 4 above the sheet comes 5: ax - 2 - w, ay + 2.
        dueArea("sum of Y -1 by 3", "W 42 1 1 0", 100, 45, 110, 50, 90, 55, 101);
        dueArea("four", "W 28 46 1 0", 100, 20, 40, 20, 60, 30, 60, 30, 40);
        dueArea("sum 103 by 4", "W 28 46 1 0", 100, 20, 40, 20, 60, 30, 60, 33, 40);
        dueArea("sum 104 by 4", "W 29 46 1 0", 100, 20, 40, 20, 60, 30, 60, 34, 40);
        CHECK.part("ANCHOR of an AREA: of the POINTS' places ON THE SHEET");
        // 20.5, 21.5, 22.5 are 21, 22, 23 on the sheet: the sum is 66, not 64.5.
        dueArea("each ROUNDED", "W 25 46 1 0", 200, 41, 100, 43, 90, 45, 110);
        // -0.5, 3, 6 are 0, 3, 6 on the sheet; -2.5, 3, 2 are -2, 3, 2.
        dueArea("a half up below 0", "W 6 46 1 0", 200, -1, 100, 6, 90, 12, 110);
        dueArea("a half up below 0", "W 4 46 1 0", 200, -5, 100, 6, 90, 4, 110);
        // Y are -0.5, 2, 4, so 0, 2, 4; on the sheet's upper end comes place 5.
        dueArea("a half of Y up below 0", "W 42 4 1 0", 200, 98, 201, 100, 196, 102, 192);
        DrawLabels twice = Check.deskWith(20, 50, 30, 40, 40, 60);
        twice.hatch(1000);
        // 20 + 20 + 30 + 40 by 4 is 27.
        dueWord("a POINT twice counts twice", "W 30 46 1 0", twice, Check.area(twice, 0, 0, 1, 2), 1);
        DrawLabels twelve = Check.deskWith(20, 50, 30, 40, 40, 60, 61, 50);
        twelve.hatch(1000);
        // 4 (20 + 30) + 3 . 40 + 61 is 381, by 12 31.
        dueWord("twelve POINTS", "W 34 46 1 0", twelve, Check.area(twelve, 0, 1, 2, 0, 1, 2, 0, 1, 2, 0, 1, 3), 1);
    }

    private static void anchorsOfOthers() {
        CHECK.part("ANCHOR: of a DOT, ANGLE, TICKS the X, Y of its MARK; of a CIRCLE X, Y - r");
        DrawLabels desk = Check.deskWith(40, 50, 61, 50, 40, 71);
        desk.window(0, 200, 0, 200);
        dueWord("a DOT at 20, 75", "W 23 71 1 0", desk, desk.object(DOT, 0, 0, 0), 1);
        desk.hide(DOT, true);
        dueWord("an ANGLE at 30.5, 75", "W 34 71 1 1", desk, desk.object(ANGLE, 0, 1, 2), 1);
        desk.hide(ANGLE, true);
        dueWord("TICKS at 25.25, 75", "W 28 71 1 2", desk, desk.object(TICKS, 0, 1, 1), 1);
        desk.hide(TICKS, true);
        // r is 10.5, 11 when rounded.
        dueWord("a CIRCLE at 20, 75 - 11", "W 23 60 1 3", desk, desk.object(CIRCLE, 0, 1, 0), 1);
    }

    private static void outWithoutMark() {
        CHECK.part("OUT, if its OBJECT has no MARK in the DRAWING");
        DrawLabels desk = Check.deskWith(-30, 50, -5, 50, -20, 30);
        desk.object(DOT, 1, 0, 0);
        desk.object(PIECE, 0, 1, 0);
        desk.object(LINE, 0, 2, 0);
        desk.object(RAY, 1, 0, 0);
        desk.object(CIRCLE, 0, 1, 0);
        desk.object(ANGLE, 0, 1, 2);
        desk.object(TICKS, 0, 1, 1);
        for (int o = 0; o < 7; o++) {
            desk.label(o, 1);
        }
        desk.move(0, 20, 0);
        desk.move(1, 20, 0);
        desk.move(2, 20, 0);
        duePlaces("outside", desk, "8888888");
        due("how many", desk.count(9), 7);
        due("none has a MARK: no ROUNDS", desk.count(11), 0);
        desk.tick(3);
        desk.draw();
        due("all inside: by ROUNDS", desk.count(11), 2);
        for (int l = 0; l < 7; l++) {
            due("LABEL " + l + " may be placed", desk.placed(l) >= 0 && desk.placed(l) <= 8 ? 1 : 0, 1);
        }
        due("DOT", desk.placed(0) == 8 ? 1 : 0, 0);
        for (int kind = 0; kind < 7; kind++) {
            desk.hide(kind, true);
        }
        duePlaces("HIDDEN", desk, "8888888");
        for (int kind = 0; kind < 7; kind++) {
            desk.hide(kind, false);
        }
        desk.move(0, 0, 0);
        desk.move(1, 0, 0);
        desk.move(2, 0, 0);
        duePlaces("outside again", desk, "8888888");
        DrawLabels fallen = Check.deskWith(50, 50, 50, 50);
        for (int kind = 1; kind < 7; kind++) {
            fallen.label(fallen.object(kind, 0, 1, 1), 1);
        }
        duePlaces("FALLEN", fallen, "888888");
        due("how many", fallen.count(9), 6);
    }

    private static void outOfAreas() {
        CHECK.part("an AREA: OUT, if it is FALLEN, or HIDDEN by KIND");
        DrawLabels desk = Check.deskWith(41, 41, 49, 41, 41, 49, 45, 41);
        desk.label(Check.area(desk, 0, 1, 2), 1);
        desk.label(Check.area(desk, 0, 1, 3), 1);
        duePlaces("one without STROKES, one FALLEN", desk, "08");
        due("F and the LABEL", desk.count(6), 2);
        desk.hide(7, true);
        duePlaces("HIDDEN", desk, "88");
        desk.hide(7, false);
        desk.move(3, 0, -1);
        desk.tick(1);
        // Their anchors are 43, 56 and 45, 59: places 0 and 0 meet, 1 and 0 do not.
        duePlaces("FALLEN no more", desk, "10");
        // The area lies around the window: its anchor is on the sheet, its hatch is not.
        DrawLabels around = Check.deskWith(-100, 40, 250, 45, -1, 65);
        around.hatch(1000);
        dueWord("outside of the window", "W 52 46 1 0", around, Check.area(around, 0, 1, 2), 1);
    }

    /** A dot at x, y on a sheet of 100 by 100. */
    private static void dueDot(String want, int x, int y, int n) {
        DrawLabels desk = Check.deskWith(x, y);
        dueWord("DOT at " + x + ", " + y + " with " + n, want, desk, desk.object(DOT, 0, 0, 0), n);
    }

    private static void placesByLetters() {
        CHECK.part("PLACES 0 .. 7 of the BOX, by its width");
        dueDot("W 53 46 2 0", 50, 50, 2);
        dueDot("W 52 85 2 0", 50, 4, 2);
        dueDot("W 82 84 2 0", 88, 4, 2);
        dueDot("W 82 38 3 0", 91, 50, 3);
        dueDot("W 72 39 3 0", 92, 50, 3);
        dueDot("W 80 1 2 0", 95, 95, 2);
        dueDot("W 44 1 8 0", 95, 95, 8);
        dueDot("W 36 2 2 0", 50, 100, 2);
        dueDot("W 0 2 2 0", 14, 100, 2);
        dueDot("W 7 3 2 0", 13, 100, 2);
        dueDot("W 0 3 2 0", 6, 100, 2);
        dueDot("W 7 2 2 0", 5, 100, 2);
        dueDot("W 0 2 8 0", 50, 100, 8);
        dueDot("W 25 3 8 0", 49, 100, 8);
        dueDot("W 0 3 8 0", 24, 100, 8);
        dueDot("W 25 2 8 0", 23, 100, 8);
    }

    private static void openWithinTheSheet() {
        CHECK.part("OPEN, if that is all within 0 .. W - 1, 0 .. H - 1");
        // W 60, H 40, and a window of the same: X is x, Y is 40 - y.
        int[][] due = {
            {51, 20, 0}, {52, 20, 1}, {30, 5, 0}, {30, 4, 1}, {30, 36, 0}, {30, 37, 5},
            {52, 29, 1}, {52, 30, 4}, {54, 20, 2}, {55, 20, 2}, {56, 20, 2}, {57, 20, 2}, {58, 20, 3},
            {57, 28, 2}, {57, 29, 3}, {58, 29, 3}, {58, 30, 4}, {8, 37, 5}, {7, 37, 6}, {3, 37, 6}, {2, 37, 7},
            {60, 36, 4}, {60, 37, 5}, {30, 40, 5}, {60, 40, 5}, {0, 40, 7}, {0, 0, 1}, {60, 0, 3}};
        for (int[] d : due) {
            DrawLabels desk = Check.deskWith(d[0], d[1]);
            desk.sheet(60, 40, 0);
            desk.window(0, 60, 0, 40);
            desk.object(DOT, 0, 0, 0);
            desk.label(0, 1);
            desk.draw();
            due("DOT at " + d[0] + ", " + d[1], desk.placed(0), d[2]);
        }
        DrawLabels wide = low();
        wide.label(ticksAt(wide, 24, 8), 8);
        duePlaces("as wide as the sheet, but never within it", wide, "8");
        DrawLabels high = new DrawLabels();
        high.sheet(48, 21, 0);
        high.window(0, 48, 0, 21);
        high.label(ticksAt(high, 24, 9), 8);
        duePlaces("as wide as the sheet, and within it", high, "2");
        CHECK.dueText("from 0 to W - 1", last(high), "W 0 0 8 0");
    }

    /** What place 0 of ticks at 50, 50 costs beside an object of points at x1, y1 and x2, y2 ON THE SHEET, or 1, if it is more. */
    private static int costBeside(int kind, int x1, int y1, int x2, int y2) {
        DrawLabels desk = Check.deskWith(x1, 100 - y1, x2, 100 - y2);
        desk.object(kind, 0, 1, 1);
        desk.label(ticksAt(desk, 50, 50), 1);
        desk.draw();
        return Math.min(1, desk.placed(0) + desk.count(10));
    }

    private static void costOfDots() {
        CHECK.part("10 more for each MARK D whose X, Y it takes");
        // Place 0 takes 53 .. 58, 46 .. 54.
        for (int x = 52; x <= 59; x++) {
            for (int y = 45; y <= 55; y++) {
                boolean taken = x >= 53 && x <= 58 && y >= 46 && y <= 54;
                due("DOT at " + x + ", " + y, costBeside(DOT, x, y, x, y), taken ? 1 : 0);
            }
        }
        DrawLabels desk = low();
        int ticks = ticksAt(desk, 24, 8);
        desk.label(ticks, 1);
        for (int dots = 0; dots <= 3; dots++) {
            desk.draw();
            due("COST with a DOT on place 0, and " + dots + " on place 4", desk.count(10), dots == 0 ? 0 : 4);
            desk.object(DOT, desk.point(29, 8), 0, 0);
        }
        int other = desk.point(18, 8);
        desk.object(DOT, other, 0, 0);
        duePlaces("one DOT against many", desk, "4");
        due("COST", desk.count(10), 14);
        desk.object(DOT, other, 0, 0);
        duePlaces("two DOTS against many", desk, "4");
        due("COST", desk.count(10), 24);
    }

    private static void costOfStrokes() {
        CHECK.part("4 more for each MARK S some place of which it takes");
        int[][] taken = {{53, 40, 53, 60}, {58, 40, 58, 60}, {40, 46, 70, 46}, {40, 54, 70, 54}, {58, 46, 70, 46}, {58, 20, 58, 46},
            {53, 54, 53, 90}, {58, 54, 90, 54}, {55, 50, 56, 50}, {0, 50, 100, 50}};
        int[][] free = {{52, 40, 52, 60}, {59, 40, 59, 60}, {59, 46, 70, 46}, {58, 20, 58, 45}, {53, 55, 53, 90}, {59, 54, 90, 54},
            {40, 55, 70, 55}};
        for (int[] s : taken) {
            due("STROKE " + java.util.Arrays.toString(s), costBeside(PIECE, s[0], s[1], s[2], s[3]), 1);
            due("STROKE back", costBeside(PIECE, s[2], s[3], s[0], s[1]), 1);
        }
        for (int[] s : free) {
            due("STROKE " + java.util.Arrays.toString(s), costBeside(PIECE, s[0], s[1], s[2], s[3]), 0);
            due("STROKE back", costBeside(PIECE, s[2], s[3], s[0], s[1]), 0);
        }
        DrawLabels desk = low();
        int ticks = ticksAt(desk, 24, 8);
        desk.label(ticks, 1);
        int a = desk.point(29, 1);
        int b = desk.point(29, 15);
        duePlaces("none", desk, "0");
        desk.object(PIECE, a, b, 0);
        duePlaces("4 against 4", desk, "0");
        due("COST", desk.count(10), 4);
        desk.object(LINE, a, b, 0);
        duePlaces("8 against 4", desk, "4");
        due("COST", desk.count(10), 4);
        desk.grid(1);
        desk.draw();
        // Each box takes 6 upright and 9 level strokes more.
        due("COST with THE GRID", desk.count(10), 4 + 60);
    }

    private static void costOfFractions() {
        CHECK.part("on the straight way from X1, Y1 to X2, Y2, fractions too");
        // At Y 46 this one is at X 57.5; no whole place of it is taken.
        due("over the corner", costBeside(PIECE, 56, 45, 59, 47), 1);
        // At Y 46 this one is at X 58.5.
        due("past the corner", costBeside(PIECE, 57, 45, 60, 47), 0);
        due("over the lower corner", costBeside(PIECE, 57, 55, 59, 52), 1);
        due("past the lower corner", costBeside(PIECE, 58, 55, 60, 52), 0);
        due("through the corner itself", costBeside(PIECE, 57, 45, 59, 47), 1);
        // A stroke of one place: the piece touches the window's right side alone.
        DrawLabels desk = Check.deskWith(55, 50, 90, 50, 54, 50, 90, 51);
        desk.window(0, 55, 0, 55);
        desk.sheet(55, 55, 0);
        desk.object(PIECE, 0, 1, 0);
        desk.label(ticksAt(desk, 46, 50), 1);
        desk.draw();
        due("one place, X 55, is not within 49 .. 54", desk.placed(0), 0);
        due("COST", desk.count(10), 0);
        DrawLabels inside = Check.deskWith(50, 25, 90, 25);
        inside.window(0, 50, 0, 50);
        inside.sheet(60, 60, 5);
        inside.object(PIECE, 0, 1, 0);
        inside.label(ticksAt(inside, 45, 25), 1);
        inside.draw();
        due("one place, X 55, is within 53 .. 58", inside.placed(0), 1);
    }

    /** Whether the way from one place to another has a place within lowest .. highest on both axes. */
    private static boolean meets(int[] from, int[] to, int[] lowest, int[] highest) {
        Fraction first = Fraction.of(0, 1);
        Fraction last = Fraction.of(1, 1);
        for (int axis = 0; axis < 2; axis++) {
            int way = to[axis] - from[axis];
            if (way == 0) {
                if (from[axis] < lowest[axis] || from[axis] > highest[axis]) {
                    return false;
                }
                continue;
            }
            Fraction enters = Fraction.of((way > 0 ? lowest : highest)[axis] - from[axis], way);
            Fraction leaves = Fraction.of((way > 0 ? highest : lowest)[axis] - from[axis], way);
            first = enters.compareTo(first) > 0 ? enters : first;
            last = leaves.compareTo(last) < 0 ? leaves : last;
        }
        return first.compareTo(last) <= 0;
    }

    private static void strokesAroundABox() {
        CHECK.part("4 more for each MARK S some place of which it takes: strokes around a BOX");
        int[] lowest = {53, 46};
        int[] highest = {58, 54};
        int[][] ring = new int[44][];
        for (int i = 0; i < 11; i++) {
            // Two and three steps beside the box on each side, so that ways pass its corners closely.
            ring[i] = new int[] {51 + i, 43};
            ring[11 + i] = new int[] {61, 45 + i};
            ring[22 + i] = new int[] {50 + i, 57};
            ring[33 + i] = new int[] {51, 44 + i};
        }
        for (int[] from : ring) {
            for (int[] to : ring) {
                if (from[0] != to[0] || from[1] != to[1]) {
                    due("STROKE from " + from[0] + ", " + from[1] + " to " + to[0] + ", " + to[1],
                            costBeside(PIECE, from[0], from[1], to[0], to[1]), meets(from, to, lowest, highest) ? 1 : 0);
                }
            }
        }
    }

    private static void otherMarksCostNothing() {
        CHECK.part("other MARKS than D and S cost nothing");
        due("a CIRCLE's middle", costBeside(CIRCLE, 55, 50, 70, 50), 0);
        due("TICKS", costBeside(TICKS, 54, 50, 56, 50), 0);
        DrawLabels desk = Check.deskWith(60, 50, 55, 50, 55, 60);
        desk.object(ANGLE, 0, 1, 2);
        desk.label(ticksAt(desk, 50, 50), 1);
        duePlaces("an ANGLE", desk, "0");
        due("COST", desk.count(10), 0);
        CHECK.part("STROKES of AREAS and SOLIDS cost as others");
        DrawLabels area = Check.deskWith(54, 49, 57, 49, 57, 52, 54, 52);
        Check.area(area, 0, 1, 2, 3);
        area.label(ticksAt(area, 50, 50), 1);
        duePlaces("an AREA", area, "1");
        DrawLabels solid = Check.deskWith(55, 50);
        solid.solid(0, 1);
        solid.vertex(0, 0, 0, 0);
        solid.vertex(0, 1, 0, 0);
        solid.vertex(0, 0, 1, 0);
        solid.face(0, 3, 0x210);
        solid.label(ticksAt(solid, 50, 50), 1);
        duePlaces("a SOLID", solid, "1");
        solid.hide(8, true);
        duePlaces("a SOLID that is HIDDEN", solid, "0");
    }

    /** A sheet on which F, 401 upright strokes of the grid and its level ones are so many marks. */
    private static DrawLabels gridded(int marks) {
        DrawLabels desk = new DrawLabels();
        desk.sheet(400, 400, 0);
        desk.window(0, 400, 0, marks - 403);
        desk.grid(1);
        return desk;
    }

    private static void lostMarksCostNothing() {
        CHECK.part("MARKS that are LOST do not count here");
        // Window 0 .. 400, 0 .. 197: X is x, Y is 298.5 - y, rounded; the grid's strokes cost 60 on all places alike.
        DrawLabels dot = gridded(600);
        dot.label(ticksAt(dot, 200, 100), 1);
        dot.object(DOT, dot.point(205, 100), 0, 0);
        duePlaces("a DOT", dot, "0");
        due("COST", dot.count(10), 60);
        due("LOST: DOT, TICKS, LABEL", dot.count(7), 3);
        DrawLabels stroke = gridded(600);
        stroke.label(ticksAt(stroke, 200, 100), 1);
        stroke.object(PIECE, stroke.point(204, 90), stroke.point(205, 110), 0);
        duePlaces("a STROKE", stroke, "0");
        due("COST", stroke.count(10), 60);
        DrawLabels told = gridded(599);
        int b = told.point(205, 110);
        told.object(PIECE, told.point(204, 90), b, 0);
        told.label(ticksAt(told, 200, 100), 1);
        told.draw();
        due("one that is the 600th counts", told.count(7), 2);
        due("COST", told.count(10), 60 + 2);
        due("PLACE", told.placed(0), 2);
    }

    private static void labelsOfLostMarks() {
        CHECK.part("those behind are LOST, but count as drawn");
        DrawLabels desk = gridded(600);
        int a = desk.point(100, 100);
        int b = desk.point(150, 100);
        int c = desk.point(150, 150);
        desk.label(desk.object(DOT, a, 0, 0), 1);
        desk.label(desk.object(CIRCLE, b, a, 0), 1);
        desk.label(desk.object(ANGLE, c, b, a), 1);
        desk.label(Check.area(desk, a, b, c), 1);
        duePlaces("LABELS of them are PLACED", desk, "0000");
        due("none OUT", desk.count(9), 0);
        due("the sum of their COSTS", desk.count(10), 4 * 60);
        due("MARKS", desk.count(6), 600);
        // Hatched at 100, 110, 120, 130, 140.
        due("LOST", desk.count(7), 3 + 5 + 4);
        desk.grid(0);
        desk.draw();
        due("without THE GRID", desk.count(6), 1 + 3 + 5 + 4);
    }

    /** Two labels on ticks at these places. */
    private static void duePair(String want, int x1, int y1, int n1, int x2, int y2, int n2) {
        DrawLabels desk = new DrawLabels();
        desk.label(ticksAt(desk, x1, 100 - y1), n1);
        desk.label(ticksAt(desk, x2, 100 - y2), n2);
        duePlaces("at " + x1 + ", " + y1 + " and " + x2 + ", " + y2, desk, want);
    }

    private static void boxesSideBySide() {
        CHECK.part("two BOXES MEET, if both take some X, Y: side by side");
        duePair("00", 20, 50, 1, 26, 50, 1);
        duePair("10", 20, 50, 1, 25, 50, 1);
        duePair("00", 26, 50, 1, 20, 50, 1);
        duePair("01", 25, 50, 1, 20, 50, 1);
        duePair("00", 20, 50, 2, 32, 50, 1);
        duePair("10", 20, 50, 2, 31, 50, 1);
        duePair("00", 20, 50, 1, 26, 50, 8);
        duePair("10", 20, 50, 1, 25, 50, 8);
        duePair("00", 32, 50, 1, 20, 50, 2);
        duePair("01", 31, 50, 1, 20, 50, 2);
    }

    private static void boxesOneAboveTheOther() {
        CHECK.part("two BOXES MEET, if both take some X, Y: one above the other");
        duePair("00", 20, 50, 1, 20, 59, 1);
        duePair("10", 20, 50, 1, 20, 58, 1);
        duePair("00", 20, 59, 1, 20, 50, 1);
        duePair("01", 20, 58, 1, 20, 50, 1);
        duePair("00", 20, 50, 1, 26, 59, 1);
        duePair("00", 20, 50, 1, 25, 59, 1);
        duePair("00", 20, 50, 1, 26, 58, 1);
        duePair("10", 20, 50, 1, 25, 58, 1);
    }

    /** On the low sheet: labels 0, 1 that are both placed by the best of all ways alone, and some that have no room. */
    private static DrawLabels pairWith(int more) {
        DrawLabels desk = low();
        int left = ticksAt(desk, 20, 8);
        desk.label(left, 2);
        desk.label(ticksAt(desk, 44, 8), 2);
        for (int i = 0; i < more; i++) {
            desk.label(left, 8);
        }
        return desk;
    }

    private static void sixOrSeven() {
        CHECK.part("if they are 6 or fewer, THE BEST of all ways; else by ROUNDS");
        for (int more = 0; more <= 6; more++) {
            DrawLabels desk = pairWith(more);
            boolean best = more + 2 <= 6;
            duePlaces(more + 2 + " LABELS", desk, (best ? "44" : "08") + "888888".substring(0, more));
            due("ROUNDS", desk.count(11), best ? 0 : 2);
            due("OUT", desk.count(9), best ? more : more + 1);
            due("COSTS", desk.count(10), best ? 8 : 0);
        }
        DrawLabels none = new DrawLabels();
        none.draw();
        due("no LABELS: no ROUNDS", none.count(11), 0);
        due("no LABELS: none OUT", none.count(9), 0);
    }

    private static void sixWithMarks() {
        CHECK.part("of those whose OBJECT has a MARK");
        DrawLabels desk = pairWith(4);
        int outside = desk.point(-9, 8);
        int away = desk.object(DOT, outside, 0, 0);
        for (int i = 0; i < 3; i++) {
            desk.label(away, 1);
        }
        duePlaces("6 of 9", desk, "448888888");
        due("ROUNDS", desk.count(11), 0);
        due("OUT: with those that have no MARK", desk.count(9), 7);
        desk.move(outside, 20, 0);
        desk.tick(1);
        desk.draw();
        due("9 of 9", desk.count(11), 2);
        DrawLabels late = low();
        int none = late.object(DOT, late.point(-9, 8), 0, 0);
        int ticks = ticksAt(late, 24, 8);
        for (int l = 0; l < 20; l++) {
            late.label(l < 14 ? none : ticks, 1);
        }
        duePlaces("the last 6 of 20", late, "88888888888888048888");
        due("ROUNDS", late.count(11), 0);
        DrawLabels area = pairWith(4);
        int a = area.point(2, 14);
        int b = area.point(6, 14);
        int c = area.point(4, 15);
        area.hatch(1000);
        area.label(Check.area(area, a, b, c), 8);
        area.draw();
        due("an AREA without STROKES is one of 7", area.count(11), 2);
        area.hide(7, true);
        area.draw();
        due("an AREA that is HIDDEN is none", area.count(11), 0);
    }

    private static void fewestOut() {
        CHECK.part("THE BEST: the fewest OUT");
        DrawLabels desk = low();
        int left = ticksAt(desk, 20, 8);
        desk.label(left, 2);
        desk.label(ticksAt(desk, 30, 8), 2);
        duePlaces("cost 4 with none OUT, not cost 0 with one", desk, "40");
        // Three strokes over place 4 of the left one make it dear, but none is OUT for that.
        int a = desk.point(10, 1);
        int b = desk.point(10, 15);
        for (int i = 0; i < 3; i++) {
            desk.object(PIECE, a, b, 0);
        }
        duePlaces("cost 16 with none OUT", desk, "40");
        due("COST", desk.count(10), 16);
        due("OUT", desk.count(9), 0);
    }

    private static void leastSum() {
        CHECK.part("THE BEST: of these the least sum of COSTS");
        // Both have place 0 alone, and these meet; a stroke at x 8 costs the first one 4, the second one nothing.
        DrawLabels desk = low();
        desk.label(ticksAt(desk, 5, 8), 2);
        desk.label(ticksAt(desk, 6, 8), 2);
        duePlaces("both cost 0: the least row", desk, "08");
        desk.object(PIECE, desk.point(8, 5), desk.point(8, 10), 0);
        duePlaces("the first one costs 4", desk, "80");
        due("COST", desk.count(10), 0);
        due("OUT", desk.count(9), 1);
        desk.object(PIECE, desk.point(20, 5), desk.point(20, 10), 0);
        duePlaces("both cost 4", desk, "08");
        due("COST", desk.count(10), 4);
        // Both on one object with places 0 and 4: a stroke over place 4 does not change the sum, its own does.
        DrawLabels two = low();
        int ticks = ticksAt(two, 24, 8);
        two.label(ticks, 1);
        two.label(ticks, 3);
        duePlaces("0 4 and 4 0 cost 4", two, "04");
        // At x 36 the wider one alone is met on place 0, 27 .. 44.
        two.object(PIECE, two.point(36, 5), two.point(36, 10), 0);
        duePlaces("4 0 costs 8", two, "04");
        // At x 10 the wider one alone is met on place 4, 3 .. 20.
        int low = two.point(10, 5);
        int high = two.point(10, 10);
        two.object(PIECE, low, high, 0);
        duePlaces("both cost 8", two, "04");
        two.object(PIECE, low, high, 0);
        duePlaces("0 4 costs 12", two, "40");
        due("COST", two.count(10), 8);
    }

    private static void leastRow() {
        CHECK.part("THE BEST: of these the least row (8 for OUT; the first one that differs counts)");
        DrawLabels same = low();
        int ticks = ticksAt(same, 24, 8);
        same.label(ticks, 1);
        same.label(ticks, 1);
        duePlaces("0 4, not 4 0", same, "04");
        same.label(ticks, 1);
        duePlaces("0 4 8, not 0 8 4", same, "048");
        same.label(ticks, 1);
        duePlaces("0 4 8 8", same, "0488");
        // Two up: places 0 and 0 meet; 0 1 and 1 0 do not, and cost the same.
        duePair("01", 20, 50, 1, 25, 48, 1);
        duePair("10", 20, 50, 1, 25, 50, 1);
        // A stroke over place 0 makes it cost as much as place 4.
        DrawLabels one = low();
        one.label(ticksAt(one, 24, 8), 1);
        one.object(PIECE, one.point(29, 5), one.point(29, 10), 0);
        duePlaces("0 at cost 4, not 4 at cost 4", one, "0");
    }

    private static void leastPlaceOfRounds() {
        CHECK.part("a ROUND: the OPEN PLACE of least COST (of these the least)");
        DrawLabels desk = low();
        int ticks = ticksAt(desk, 24, 8);
        desk.label(ticks, 1);
        for (int i = 0; i < 6; i++) {
            desk.label(ticks, 8);
        }
        duePlaces("0", desk, "0888888");
        int a = desk.point(29, 5);
        int b = desk.point(29, 10);
        desk.object(PIECE, a, b, 0);
        duePlaces("0 at cost 4, not 4 at cost 4", desk, "0888888");
        due("COST", desk.count(10), 4);
        desk.object(PIECE, a, b, 0);
        duePlaces("4 at cost 4, not 0 at cost 8", desk, "4888888");
        due("COST", desk.count(10), 4);
        due("ROUNDS", desk.count(11), 2);
        desk.label(ticks, 1);
        duePlaces("the last one takes what is left", desk, "48888880");
        due("COST", desk.count(10), 12);
        desk.label(ticks, 1);
        duePlaces("none is left", desk, "488888808");
    }

    private static void eachPlaceIsLeast() {
        CHECK.part("the PLACE of least COST: each of 0 .. 7, by THE BEST and by ROUNDS");
        // A dot that each place of ticks at 50, 50 takes, and no other place does.
        int[][] dots = {{58, 48}, {55, 40}, {48, 38}, {43, 42}, {41, 50}, {43, 58}, {49, 61}, {56, 58}};
        for (int free = 0; free < 8; free++) {
            DrawLabels desk = new DrawLabels();
            int ticks = ticksAt(desk, 50, 50);
            for (int p = 0; p < 8; p++) {
                if (p != free) {
                    desk.object(DOT, desk.point(dots[p][0], 100 - dots[p][1]), 0, 0);
                }
            }
            desk.label(ticks, 1);
            desk.draw();
            due("THE BEST", desk.placed(0), free);
            due("its COST", desk.count(10), free);
            int corner = ticksAt(desk, 90, 90);
            for (int i = 0; i < 6; i++) {
                desk.label(corner, 1);
            }
            desk.draw();
            due("a ROUND", desk.placed(0), free);
            due("ROUNDS", desk.count(11), 2);
        }
        DrawLabels last = Check.deskWith(0, 100);
        int dot = last.object(DOT, 0, 0, 0);
        for (int i = 0; i < 7; i++) {
            last.label(dot, 1);
        }
        duePlaces("7 alone is OPEN", last, "7888888");
        due("COST", last.count(10), 7);
    }

    private static void rounds() {
        CHECK.part("ROUNDS: it ends behind the ROUND in which none changed");
        DrawLabels desk = low();
        int ticks = ticksAt(desk, 24, 8);
        for (int i = 0; i < 7; i++) {
            desk.label(ticks, 8);
        }
        duePlaces("none has room", desk, "8888888");
        due("none changed in the first", desk.count(11), 1);
        due("OUT", desk.count(9), 7);
        due("COST", desk.count(10), 0);
        desk.label(ticks, 1);
        duePlaces("the last one has", desk, "88888880");
        due("none changed in the second", desk.count(11), 2);
        duePlaces("drawn again: all are OUT at first", desk, "88888880");
        due("so the ROUNDS are as before", desk.count(11), 2);
        DrawLabels taken = low();
        int one = ticksAt(taken, 5, 8);
        for (int i = 0; i < 7; i++) {
            taken.label(one, 1);
        }
        duePlaces("one place for all: the first one has it", taken, "0888888");
        due("ROUNDS", taken.count(11), 2);
    }

    private static void words() {
        CHECK.part("W left top n l: for each that is PLACED, by numbers l");
        DrawLabels desk = low();
        int ticks = ticksAt(desk, 24, 8);
        desk.label(ticks, 8);
        desk.label(ticks, 2);
        desk.label(ticks, 3);
        CHECK.dueText("without the one that is OUT", Check.drawn(desk), "T 24 8 1 0/W 27 4 2 1/W 3 4 3 2/");
        due("MARKS", desk.count(6), 4);
        due("OUT", desk.count(9), 1);
    }

    private static void placed() {
        CHECK.part("promise 29: 8 OUT; NONE: it was not there then");
        DrawLabels desk = low();
        int ticks = ticksAt(desk, 24, 8);
        due("no LABEL", desk.placed(0), DrawLabels.UNKNOWN);
        desk.draw();
        due("no LABEL yet", desk.placed(0), DrawLabels.UNKNOWN);
        desk.label(ticks, 1);
        due("made behind the DRAWING", desk.placed(0), DrawLabels.NONE);
        due("OUT are none", desk.count(9), 0);
        desk.draw();
        due("drawn", desk.placed(0), 0);
        desk.label(ticks, 8);
        due("not there then", desk.placed(1), DrawLabels.NONE);
        due("the other one stays", desk.placed(0), 0);
        desk.hide(TICKS, true);
        due("HIDDEN, but not drawn since", desk.placed(0), 0);
        desk.draw();
        due("drawn since", desk.placed(0), 8);
        due("drawn since", desk.placed(1), 8);
        desk.window(3, 3, 0, 9);
        desk.label(ticks, 1);
        desk.hide(TICKS, false);
        due("not there then", desk.placed(2), DrawLabels.NONE);
        desk.draw();
        for (int l = 0; l < 3; l++) {
            due("without a SCALE", desk.placed(l), 8);
        }
        due("behind the last one", desk.placed(3), DrawLabels.UNKNOWN);
    }

    private static void sums() {
        CHECK.part("promise 32: 9 LABELS that are OUT, 10 the sum of COSTS of those PLACED");
        DrawLabels desk = low();
        int ticks = ticksAt(desk, 24, 8);
        desk.label(ticks, 1);
        desk.label(ticks, 1);
        desk.label(ticks, 8);
        desk.object(PIECE, desk.point(29, 5), desk.point(29, 10), 0);
        desk.draw();
        due("OUT", desk.count(9), 1);
        due("0 with a stroke, and 4", desk.count(10), 8);
        desk.window(3, 3, 0, 9);
        due("OUT are of the DRAWING", desk.count(9), 1);
        desk.draw();
        due("without a SCALE all", desk.count(9), 3);
        due("without a SCALE no COSTS", desk.count(10), 0);
        due("without a SCALE no ROUNDS", desk.count(11), 0);
    }
}
