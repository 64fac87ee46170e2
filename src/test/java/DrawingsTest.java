/** Promises 27, 28, 30, 31, 32: a drawing, its marks and its octets. */
public final class DrawingsTest {
    private static final int UNKNOWN = DrawLabels.UNKNOWN, OUTSIDE = DrawLabels.OUTSIDE, NONE = DrawLabels.NONE;
    private static final int LOWEST = Integer.MIN_VALUE, HIGHEST = Integer.MAX_VALUE;
    private static final int PIECE = 1, LINE = 2, RAY = 3;
    private static final Check CHECK = new Check("DrawingsTest");

    public static void main(String[] args) {
        order();
        withoutScale();
        rounding();
        dots();
        straightWays();
        circles();
        angles();
        ticks();
        areas();
        lost();
        mark();
        octet();
        digest();
        count();
        CHECK.end();
    }

    private static void due(String call, long got, long want) {
        CHECK.due(call, got, want);
    }

    /** What an object of points 0, 1, 2 at these places is drawn as. */
    private static void dueDrawn(String want, int kind, int c, int... places) {
        DrawLabels desk = Check.deskWith(places);
        desk.object(kind, 0, 1, c);
        CHECK.dueText("kind " + kind + " at " + java.util.Arrays.toString(places), Check.drawn(desk), want);
    }

    private static void order() {
        CHECK.part("promise 27, the order");
        DrawLabels desk = Check.deskWith(10, 10, 30, 10, 10, 30);
        desk.object(0, 0, 0, 0);
        Check.area(desk, 0, 1, 2);
        desk.object(1, 1, 2, 0);
        Check.area(desk, 2, 1, 0);
        desk.style(1, 1);
        desk.style(2, 2);
        desk.grid(100);
        desk.hatch(20);
        desk.solid(0, 1);
        desk.vertex(0, 0, 0, 0);
        desk.vertex(0, 3, 0, 0);
        desk.vertex(0, 0, 3, 0);
        desk.face(0, 3, 0x210);
        desk.label(0, 1);
        due("draw", desk.draw(), 13);
        due("code", desk.code(), 0);
        CHECK.dueText("octets", Check.octets(desk), "F 100 100/"
                + "S 0 100 0 0 1/S 100 100 100 0 1/S 0 100 100 100 1/S 0 0 100 0 1/"
                + "S 10 80 20 80 1/S 10 80 20 80 0/"
                + "D 10 90 0/S 30 90 10 70 2/"
                + "S 10 90 13 90 0/S 10 90 10 87 0/S 13 90 10 87 0/"
                + "W 2 79 1 0/");
        desk.hide(7, true);
        desk.hide(8, true);
        desk.grid(0);
        due("draw in place of it", desk.draw(), 4);
        CHECK.dueText("octets", Check.octets(desk), "F 100 100/D 10 90 0/S 30 90 10 70 2/W 13 86 1 0/");
        desk.move(0, 1, 1);
        desk.tick(2);
        due("a drawing stays as it was", desk.mark(1, 1), 10);
        desk.draw();
        due("until the next one", desk.mark(1, 1), 12);
    }

    private static void withoutScale() {
        CHECK.part("promise 27, without a scale");
        DrawLabels desk = Check.deskWith(5, 5);
        desk.object(0, 0, 0, 0);
        desk.label(0, 1);
        desk.label(0, 1);
        desk.grid(1);
        desk.draw();
        desk.window(5, 5, 0, 10);
        due("draw", desk.draw(), 0);
        due("code", desk.code(), 6);
        CHECK.dueText("octets", Check.octets(desk), "F 100 100/");
        due("marks", desk.count(6), 1);
        due("lost", desk.count(7), 0);
        due("out", desk.count(9), 2);
        due("costs", desk.count(10), 0);
        due("rounds", desk.count(11), 0);
        due("placed", desk.placed(1), 8);
        desk.window(0, 10, 5, 5);
        due("draw", desk.draw(), 0);
        due("code", desk.code(), 6);
        desk.window(0, 10, 0, 10);
        desk.draw();
        due("code again", desk.code(), 0);
    }

    private static void rounding() {
        CHECK.part("rounding");
        DrawLabels desk = Check.deskWith(1, 1, 3, 3, 0, 200, 2, 199);
        desk.window(0, 200, 0, 200);
        for (int p = 0; p < 4; p++) {
            desk.object(0, p, 0, 0);
        }
        CHECK.dueText("a half up", Check.drawn(desk), "D 1 100 0/D 2 99 0/D 0 0 0/D 1 1 0/");
        DrawLabels below = Check.deskWith(-1, 201, 199, 201, -3, 203);
        below.window(0, 200, 0, 200);
        below.object(4, 0, 1, 0);
        below.object(4, 2, 1, 0);
        CHECK.dueText("a half up below 0", Check.drawn(below), "C 0 0 100 1 0/C -1 -1 101 1 0/");
        DrawLabels once = Check.deskWith(-1, 1, 4, 2);
        once.window(0, 200, 0, 200);
        once.object(1, 0, 1, 0);
        CHECK.dueText("rounded once", Check.drawn(once), "S 0 99 2 99 0/");
        DrawLabels odd = Check.deskWith(0, 0, 1, 1);
        odd.sheet(17, 16, 3);
        odd.window(0, 1, 0, 1);
        odd.object(1, 0, 1, 0);
        CHECK.dueText("odd sheet, margin", Check.drawn(odd), "S 4 13 14 3 0/");
    }

    private static void dots() {
        CHECK.part("dots");
        dueDrawn("D 0 100 0/", 0, 0, 0, 0);
        dueDrawn("D 100 0 0/", 0, 0, 100, 100);
        dueDrawn("", 0, 0, -1, 0);
        dueDrawn("", 0, 0, 101, 0);
        dueDrawn("", 0, 0, 0, -1);
        dueDrawn("", 0, 0, 0, 101);
    }

    private static void straightWays() {
        CHECK.part("pieces, lines, rays");
        dueDrawn("S 10 90 90 10 0/", PIECE, 0, 10, 10, 90, 90);
        dueDrawn("S 90 10 10 90 0/", PIECE, 0, 90, 90, 10, 10);
        dueDrawn("S 0 97 20 90 0/", PIECE, 0, -10, 0, 20, 10);
        dueDrawn("S 20 90 0 97 0/", PIECE, 0, 20, 10, -10, 0);
        dueDrawn("S 0 50 100 50 0/", PIECE, 0, -20000, 50, 20000, 50);
        dueDrawn("S 100 50 100 50 0/", PIECE, 0, 100, 50, 150, 50);
        dueDrawn("S 100 0 100 0 0/", PIECE, 0, 95, 105, 105, 95);
        dueDrawn("", PIECE, 0, 95, 106, 106, 95);
        dueDrawn("", PIECE, 0, 101, 0, 101, 100);
        dueDrawn("", PIECE, 0, 0, -1, 100, -1);
        dueDrawn("", PIECE, 0, 110, 50, 150, 50);
        dueDrawn("", PIECE, 0, 50, 50, 50, 50);
        dueDrawn("S 0 100 100 0 0/", LINE, 0, 50, 50, 51, 51);
        dueDrawn("S 100 50 0 50 0/", LINE, 0, 60, 50, 50, 50);
        dueDrawn("S 30 0 30 100 0/", LINE, 0, 30, 20000, 30, 19999);
        dueDrawn("S 0 100 0 100 0/", LINE, 0, -10, 10, 10, -10);
        dueDrawn("", LINE, 0, -11, 10, 10, -11);
        dueDrawn("S 0 50 100 50 0/", LINE, 0, 19999, 50, 20000, 50);
        dueDrawn("S 50 50 100 50 0/", RAY, 0, 50, 50, 60, 50);
        dueDrawn("S 100 50 0 50 0/", RAY, 0, 150, 50, 140, 50);
        dueDrawn("S 50 50 50 100 0/", RAY, 0, 50, 50, 50, 49);
        dueDrawn("", RAY, 0, 150, 50, 160, 50);
        dueDrawn("S 100 100 100 100 0/", RAY, 0, 100, 0, 101, -7);
        dueDrawn("", RAY, 0, 50, 150, 151, 52);
        DrawLabels far = Check.deskWith(20000, 20000, -20000, -19999);
        far.move(0, 100, 100);
        far.move(1, -100, -100);
        far.tick(100);
        far.window(-40000, 40000, -40000, 40000);
        far.sheet(400, 400, 0);
        far.object(2, 0, 1, 0);
        CHECK.dueText("as far as can be", Check.drawn(far), "S 400 0 0 400 0/");
    }

    private static void circles() {
        CHECK.part("circles");
        dueDrawn("C 50 50 50 0 0/", 4, 0, 50, 50, 100, 50);
        dueDrawn("C 50 50 51 1 0/", 4, 0, 50, 50, 50, 101);
        dueDrawn("C 40 60 41 1 0/", 4, 0, 40, 40, 40, 81);
        dueDrawn("C 60 40 41 1 0/", 4, 0, 60, 60, 60, 19);
        dueDrawn("C 60 60 41 1 0/", 4, 0, 60, 40, 60, 81);
        dueDrawn("C 200 50 100 1 0/", 4, 0, 200, 50, 300, 50);
        dueDrawn("", 4, 0, 200, 50, 200, 149);
        dueDrawn("C 50 -50 50 1 0/", 4, 0, 50, 150, 50, 200);
        dueDrawn("", 4, 0, 50, 150, 50, 199);
        dueDrawn("C 50 50 71 1 0/", 4, 0, 50, 50, 100, 100);
        dueDrawn("", 4, 0, 50, 50, 121, 50);
        dueDrawn("C 103 -4 5 1 0/", 4, 0, 103, 104, 106, 108);
        dueDrawn("", 4, 0, 103, 105, 106, 109);
        dueDrawn("", 4, 0, 50, 50, 50, 50);
        DrawLabels half = Check.deskWith(100, 100, 105, 100, 101, 100, 102, 102);
        half.window(0, 200, 0, 200);
        half.object(4, 0, 1, 0);
        half.object(4, 0, 2, 0);
        half.object(4, 0, 3, 0);
        half.style(2, 2);
        CHECK.dueText("rounded radius", Check.drawn(half), "C 50 50 3 0 0/C 50 50 1 0 0/C 50 50 1 0 2/");
        DrawLabels wide = Check.deskWith(-20000, 0, 20000, 0);
        wide.move(0, -100, 0);
        wide.move(1, 100, 0);
        wide.tick(100);
        wide.window(29999, 30000, 0, 1);
        wide.sheet(400, 400, 0);
        wide.object(4, 0, 1, 0);
        CHECK.dueText("the greatest", Check.drawn(wide), "C -23999600 400 24000000 1 0/");
    }

    private static void angles() {
        CHECK.part("angles");
        // Around 50, 50 by eighths: each way itself, and one a little on.
        int[][] ways = {{9, 0}, {9, 1}, {9, 9}, {8, 9}, {0, 9}, {-1, 9}, {-9, 9}, {-9, 8},
            {-9, 0}, {-9, -1}, {-9, -9}, {-8, -9}, {0, -9}, {1, -9}, {9, -9}, {9, -8}};
        for (int i = 0; i < 16; i++) {
            for (int j = 0; j < 16; j++) {
                long dot = (long) ways[i][0] * ways[j][0] + (long) ways[i][1] * ways[j][1];
                int k = i == j ? 4 : (i + 8) % 16 == j ? 3 : dot > 0 ? 0 : dot == 0 ? 1 : 2;
                dueDrawn("A 50 50 " + i / 2 + " " + j / 2 + " " + k + "/", 5, 2,
                        50 + ways[i][0], 50 + ways[i][1], 50, 50, 50 + ways[j][0], 50 + ways[j][1]);
            }
        }
        dueDrawn("A 0 100 4 2 1/", 5, 2, -5, 0, 0, 0, 0, 5);
        dueDrawn("A 50 50 1 1 4/", 5, 2, 51, 51, 50, 50, 99, 99);
        dueDrawn("A 50 50 0 0 4/", 5, 2, 52, 51, 50, 50, 54, 52);
        dueDrawn("A 50 50 0 1 0/", 5, 2, 51, 50, 50, 50, 51, 51);
        dueDrawn("A 50 50 0 3 2/", 5, 2, 51, 50, 50, 50, 49, 51);
        dueDrawn("", 5, 2, 50, 50, -1, 0, 0, 5);
        dueDrawn("", 5, 2, 50, 50, 50, 50, 0, 5);
        dueDrawn("", 5, 2, 0, 5, 50, 50, 50, 50);
    }

    private static void ticks() {
        CHECK.part("ticks");
        dueDrawn("T 51 50 3 1/", 6, 3, 0, 0, 101, 101);
        dueDrawn("T 51 50 1 5/", 6, 1, 101, 101, 0, 0);
        dueDrawn("T 0 50 2 0/", 6, 2, -50, 50, 50, 50);
        dueDrawn("", 6, 2, -51, 50, 50, 50);
        dueDrawn("T 100 50 2 2/", 6, 2, 100, 0, 100, 100);
        dueDrawn("", 6, 2, 100, 0, 101, 100);
        dueDrawn("", 6, 2, 0, -100, 0, 99);
        dueDrawn("T 0 0 2 7/", 6, 2, -7, 104, 7, 96);
        dueDrawn("", 6, 2, 40, 40, 40, 40);
        int[][] inside = {{20, 30}, {100, 30}, {20, 90}, {100, 90}};
        int[][] outside = {{19, 30}, {101, 30}, {20, 29}, {20, 91}};
        for (int[] twice : inside) {
            due("middle inside", middleDrawn(twice[0], twice[1]), 2);
        }
        for (int[] twice : outside) {
            due("middle outside", middleDrawn(twice[0], twice[1]), 1);
        }
    }

    /** How many marks there are with ticks whose middle, taken twice, is x, y, in a window from 10, 15 to 50, 45. */
    private static int middleDrawn(int x, int y) {
        DrawLabels desk = Check.deskWith(x, 0, 0, y);
        desk.window(10, 50, 15, 45);
        desk.object(6, 0, 1, 1);
        return desk.draw();
    }

    private static void areas() {
        CHECK.part("areas");
        DrawLabels band = Check.deskWith(-50, 0, 150, 0, 150, 20, -50, 20);
        Check.area(band, 0, 1, 2, 3);
        band.style(0, 2);
        CHECK.dueText("cut left and right; not at its top", Check.drawn(band), "S 0 100 100 100 2/S 0 90 100 90 2/");
        DrawLabels touch = Check.deskWith(100, 50, 150, 0, 150, 100);
        Check.area(touch, 0, 1, 2);
        CHECK.dueText("one place", Check.drawn(touch), "S 100 50 100 50 0/");
        DrawLabels peaks = Check.deskWith(0, 0, 20, 40, 40, 0, 60, 40, 80, 0, 40, -20);
        Check.area(peaks, 0, 1, 2, 3, 4, 5);
        CHECK.dueText("two and two", Check.drawn(peaks), "S 0 100 40 100 0/S 40 100 80 100 0/S 5 90 35 90 0/S 45 90 75 90 0/"
                + "S 10 80 30 80 0/S 50 80 70 80 0/S 15 70 25 70 0/S 55 70 65 70 0/");
        DrawLabels slant = Check.deskWith(0, 5, 100, 16, 3, 16);
        Check.area(slant, 0, 1, 2);
        // At y = 10: 3 . 5 / 11 and 100 . 5 / 11.
        CHECK.dueText("fractions", Check.drawn(slant), "S 1 90 45 90 0/");
        DrawLabels cross = Check.deskWith(0, 0, 60, 60, 60, 0, 0, 40);
        Check.area(cross, 0, 1, 2, 3);
        cross.hatch(50);
        CHECK.dueText("a crossed one", Check.drawn(cross), "S 0 100 0 100 0/S 60 100 60 100 0/S 50 50 60 50 0/");
        DrawLabels low = Check.deskWith(0, -100, 50, -100, 50, 100, 0, 100);
        Check.area(low, 0, 1, 2, 3);
        low.window(-10, 90, -55, 45);
        low.hatch(25);
        CHECK.dueText("below 0, rising", Check.drawn(low), "S 10 95 60 95 0/S 10 70 60 70 0/S 10 45 60 45 0/S 10 20 60 20 0/");
        DrawLabels aside = Check.deskWith(-90, 0, -10, 0, -10, 90, 110, 0, 190, 0, 190, 90);
        Check.area(aside, 0, 1, 2);
        Check.area(aside, 3, 4, 5);
        CHECK.dueText("beside the window", Check.drawn(aside), "");
    }

    private static void lost() {
        CHECK.part("promise 27, lost marks");
        DrawLabels desk = Check.deskWith(200, 100, 205, 100);
        desk.sheet(400, 400, 0);
        desk.window(0, 400, 0, 197);
        desk.grid(1);
        due("the grid and F fill it", desk.draw(), 600);
        due("none lost", desk.count(7), 0);
        int octets = desk.count(8);
        int digest = desk.digest();
        desk.object(0, 0, 0, 0);
        desk.object(0, 1, 0, 0);
        desk.label(0, 1);
        due("draw", desk.draw(), 600);
        due("dots and the label are lost", desk.count(7), 3);
        due("octets are none of theirs", desk.count(8), octets);
        due("digest is none of theirs", desk.digest(), digest);
        due("lost marks count as drawn, but cost nothing", desk.placed(0), 0);
        due("six upright strokes, nine level ones", desk.count(10), 60);
        due("none is out", desk.count(9), 0);
        due("no mark 600", desk.mark(600, 0), UNKNOWN);
        due("mark 599", desk.mark(599, 0), 'S');
    }

    private static void mark() {
        CHECK.part("promise 28");
        DrawLabels desk = Check.deskWith(150, 150, 60, 30);
        due("no drawing", desk.mark(0, 0), UNKNOWN);
        desk.object(4, 0, 1, 0);
        desk.style(0, 2);
        desk.draw();
        int[] due = {'C', 150, -50, 150, 1, 2, 0};
        for (int what = 0; what <= 6; what++) {
            due("C " + what, desk.mark(1, what), due[what]);
        }
        int[] dueF = {'F', 100, 100, 0, 0, 0, 0};
        for (int what = 0; what <= 6; what++) {
            due("F " + what, desk.mark(0, what), dueF[what]);
        }
        numbersOfMarks();
        due("what 7", desk.mark(1, 7), OUTSIDE);
        due("what -1", desk.mark(1, -1), OUTSIDE);
        due("no mark", desk.mark(2, 0), UNKNOWN);
        due("no mark below 0", desk.mark(-1, 0), UNKNOWN);
        due("UNKNOWN goes first", desk.mark(2, 7), UNKNOWN);
        due("far off", desk.mark(HIGHEST, LOWEST), UNKNOWN);
    }

    /** Each mark has its letter and its numbers, and 0 behind them. */
    private static void numbersOfMarks() {
        DrawLabels desk = Check.deskWith(31, 32, 47, 44, 35, 71);
        desk.object(0, 0, 0, 0);
        desk.object(1, 0, 1, 0);
        desk.object(4, 0, 1, 0);
        desk.object(5, 1, 0, 2);
        desk.object(6, 0, 1, 3);
        desk.style(0, 2);
        desk.style(1, 1);
        desk.style(2, 2);
        desk.label(2, 2);
        due("draw", desk.draw(), 7);
        int[][] due = {{'F', 100, 100, 0, 0, 0, 0}, {'D', 31, 68, 2, 0, 0, 0}, {'S', 31, 68, 47, 56, 1, 0},
            {'C', 31, 68, 20, 0, 2, 0}, {'A', 31, 68, 0, 1, 0, 0}, {'T', 39, 62, 3, 0, 0, 0}, {'W', 34, 44, 2, 0, 0, 0}};
        for (int k = 0; k < 7; k++) {
            for (int what = 0; what <= 6; what++) {
                due("MARK " + k + " what " + what, desk.mark(k, what), due[k][what]);
            }
        }
    }

    private static void octet() {
        CHECK.part("promise 30");
        DrawLabels desk = Check.deskWith(150, 150, 60, 30);
        due("no drawing", desk.octet(0), NONE);
        desk.object(4, 0, 1, 0);
        desk.draw();
        String all = "F 100 100\nC 150 -50 150 1 0\n";
        for (int k = 0; k < all.length(); k++) {
            due("octet " + k, desk.octet(k), all.charAt(k));
        }
        due("behind", desk.octet(all.length()), NONE);
        due("below", desk.octet(-1), NONE);
        due("far behind", desk.octet(HIGHEST), NONE);
        due("far below", desk.octet(LOWEST), NONE);
        due("how many", desk.count(8), all.length());
        desk.hide(4, true);
        desk.draw();
        due("fewer then", desk.octet(10), NONE);
    }

    private static void digest() {
        CHECK.part("promise 31");
        DrawLabels desk = new DrawLabels();
        due("no drawing", desk.digest(), 17);
        desk.draw();
        int d = 17;
        for (char c : "F 100 100\n".toCharArray()) {
            d = 31 * d + c;
        }
        due("one mark", desk.digest(), d);
        due("asked again", desk.digest(), d);
        desk.draw();
        due("drawn again", desk.digest(), d);
    }

    private static void count() {
        CHECK.part("promise 32");
        DrawLabels desk = Check.deskWith(50, 50, 0, 0, 20, 30);
        desk.object(0, 0, 0, 0);
        desk.object(0, 1, 0, 0);
        desk.solid(0, 1);
        desk.label(0, 1);
        desk.label(0, 1);
        desk.label(0, 2);
        desk.label(1, 8);
        desk.tick(9);
        desk.view(2);
        int[] before = {3, 2, 1, 4, 9, 2, 0, 0, 0, 0, 0, 0};
        for (int what = 0; what < 12; what++) {
            due("count " + what, desk.count(what), before[what]);
        }
        desk.hide(0, true);
        desk.draw();
        int[] hidden = {3, 2, 1, 4, 9, 2, 1, 0, 10, 4, 0, 0};
        for (int what = 0; what < 12; what++) {
            due("count " + what + ", all hidden", desk.count(what), hidden[what]);
        }
        desk.hide(0, false);
        desk.draw();
        // Labels 0, 1, 2 on places 0, 2, 4, and label 3 on place 1.
        int[] after = {3, 2, 1, 4, 9, 2, 7, 0, Check.octets(desk).length(), 0, 7, 0};
        for (int what = 0; what < 12; what++) {
            due("count " + what + ", drawn", desk.count(what), after[what]);
        }
        due("what 12", desk.count(12), OUTSIDE);
        due("what -1", desk.count(-1), OUTSIDE);
    }
}
