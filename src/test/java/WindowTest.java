/** Promises 13 to 20: window, sheet, scale. */
public final class WindowTest {
    private static final int UNKNOWN = DrawLabels.UNKNOWN, OUTSIDE = DrawLabels.OUTSIDE, NOT = DrawLabels.NOT;
    private static final Check CHECK = new Check("WindowTest");

    public static void main(String[] args) {
        window();
        fit();
        fitEdges();
        fitKinds();
        side();
        sheet();
        grid();
        hatch();
        scale();
        single();
        singleEdges();
        CHECK.end();
    }

    private static void due(String call, long got, long want) {
        CHECK.due(call, got, want);
    }

    private static void dueWindow(DrawLabels desk, int left, int right, int bottom, int top) {
        due("left", desk.side(0), left);
        due("right", desk.side(1), right);
        due("bottom", desk.side(2), bottom);
        due("top", desk.side(3), top);
    }

    private static void window() {
        CHECK.part("promise 13");
        DrawLabels desk = new DrawLabels();
        due("all", desk.window(-40000, 40000, -39999, 39999), 1);
        dueWindow(desk, -40000, 40000, -39999, 39999);
        due("one place", desk.window(7, 7, -3, -3), 1);
        due("left outside", desk.window(-40001, 0, 0, 0), OUTSIDE);
        due("right outside", desk.window(0, 40001, 0, 0), OUTSIDE);
        due("bottom outside", desk.window(0, 0, -40001, 0), OUTSIDE);
        due("top outside", desk.window(0, 0, 0, 40001), OUTSIDE);
        due("left above right", desk.window(1, 0, 0, 9), OUTSIDE);
        due("bottom above top", desk.window(0, 9, 1, 0), OUTSIDE);
        dueWindow(desk, 7, 7, -3, -3);
    }

    private static void fit() {
        CHECK.part("promise 14");
        DrawLabels desk = Check.deskWith(5, 6, -7, 8, 9, -10, 1000, 1000, -500, 50);
        due("no objects", desk.fit(), NOT);
        dueWindow(desk, 0, 100, 0, 100);
        desk.object(0, 0, 3, 3);
        due("a dot", desk.fit(), 1);
        dueWindow(desk, 5, 5, 6, 6);
        desk.object(1, 1, 1, 3);
        due("with one that is fallen", desk.fit(), 2);
        dueWindow(desk, -7, 5, 6, 8);
        desk.object(5, 0, 1, 2);
        desk.object(6, 0, 1, 3);
        due("with an angle and ticks", desk.fit(), 4);
        dueWindow(desk, -7, 9, -10, 8);
        Check.area(desk, 0, 1, 2, 3);
        desk.move(3, 10, 10);
        desk.tick(100);
        due("with an area, as it is now", desk.fit(), 5);
        dueWindow(desk, -7, 2000, -10, 2000);
        desk.hide(7, true);
        desk.hide(0, true);
        due("not those hidden", desk.fit(), 3);
        dueWindow(desk, -7, 9, -10, 8);
        for (int kind = 1; kind < 8; kind++) {
            desk.hide(kind, true);
        }
        due("all hidden", desk.fit(), NOT);
        dueWindow(desk, -7, 9, -10, 8);
        desk.hide(1, false);
        due("below 0 alone", desk.fit(), 1);
        dueWindow(desk, -7, -7, 8, 8);
    }

    private static void fitEdges() {
        CHECK.part("promise 14, edges");
        DrawLabels desk = Check.deskWith(-20000, 20000, 20000, -20000, 5, 6, 7, 8);
        desk.move(0, -100, 100);
        desk.move(1, 100, -100);
        desk.solid(0, 50);
        desk.corner(0);
        desk.object(0, 2, 0, 1);
        due("POINTS in no OBJECT, of SOLIDS and in THE CHAIN do not count", desk.fit(), 1);
        dueWindow(desk, 5, 5, 6, 6);
        due("a WINDOW of one place has no SCALE", desk.draw(), 0);
        desk.object(1, 2, 3, 0);
        due("c of a PIECE does not count", desk.fit(), 2);
        dueWindow(desk, 5, 7, 6, 8);
        desk.object(5, 2, 3, 0);
        due("c of an ANGLE counts", desk.fit(), 3);
        dueWindow(desk, -20000, 7, 6, 20000);
        desk.object(4, 2, 1, 0);
        desk.tick(100);
        due("as far as can be", desk.fit(), 4);
        dueWindow(desk, -30000, 30000, -30000, 30000);
        desk.hide(8, true);
        desk.hide(9, true);
        due("all KINDS of OBJECTS", desk.fit(), 4);
        desk.hide(5, true);
        due("without the ANGLE", desk.fit(), 3);
        dueWindow(desk, 5, 30000, -30000, 8);
        due("CODE stays", desk.code(), 6);
    }

    private static void fitKinds() {
        CHECK.part("promise 14, the POINTS of each KIND and no other ones");
        int[][] windows = {{5, 5, 6, 6}, {5, 7, 3, 6}, {5, 7, 3, 6}, {5, 7, 3, 6}, {5, 7, 3, 6}, {-1, 7, 3, 9}, {5, 7, 3, 6}};
        for (int kind = 0; kind < 7; kind++) {
            DrawLabels desk = Check.deskWith(900, -900, 5, 6, 7, 3, -1, 9, -800, 800);
            desk.object(kind, 1, 2, 3);
            due("KIND " + kind, desk.fit(), 1);
            dueWindow(desk, windows[kind][0], windows[kind][1], windows[kind][2], windows[kind][3]);
        }
        DrawLabels desk = Check.deskWith(900, -900, 5, 6, 7, 3, -1, 9, -800, 800);
        Check.area(desk, 1, 2, 3);
        due("AREA of 3", desk.fit(), 1);
        dueWindow(desk, -1, 7, 3, 9);
        Check.area(desk, 1, 1, 1, 1, 1, 1, 1, 1, 1, 1, 1, 4);
        due("AREA of 12 that is FALLEN", desk.fit(), 2);
        dueWindow(desk, -800, 7, 3, 800);
    }

    private static void side() {
        CHECK.part("promise 15");
        DrawLabels desk = new DrawLabels();
        desk.window(1, 2, 3, 4);
        dueWindow(desk, 1, 2, 3, 4);
        due("above", desk.side(4), OUTSIDE);
        due("below", desk.side(-1), OUTSIDE);
    }

    private static void sheet() {
        CHECK.part("promise 16");
        DrawLabels desk = new DrawLabels();
        due("least", desk.sheet(16, 16, 0), 1);
        due("greatest", desk.sheet(400, 399, 7), 1);
        int[][] wrong = {{15, 16, 0}, {401, 16, 0}, {16, 15, 0}, {16, 401, 0}, {16, 16, -1}, {16, 16, 8}};
        for (int[] w : wrong) {
            due("outside", desk.sheet(w[0], w[1], w[2]), OUTSIDE);
        }
        desk.draw();
        CHECK.dueText("mark", Check.octets(desk), "F 400 399/");
        due("the margin counts twice: up", desk.scale(true), 77);
        due("the margin counts twice: down", desk.scale(false), 20);
    }

    private static void grid() {
        CHECK.part("promise 17");
        DrawLabels desk = new DrawLabels();
        due("first", desk.grid(40000), 0);
        due("above", desk.grid(40001), OUTSIDE);
        due("below", desk.grid(-1), OUTSIDE);
        CHECK.dueText("0 is a multiple", Check.drawn(desk), "S 0 100 0 0 1/S 0 100 100 100 1/");
        due("second", desk.grid(60), 40000);
        desk.window(-60, 40, 1, 59);
        CHECK.dueText("rising, ends too", Check.drawn(desk), "S 0 79 0 21 1/S 60 79 60 21 1/");
        due("third", desk.grid(0), 60);
        CHECK.dueText("none", Check.drawn(desk), "");
        desk.grid(1);
        desk.window(-40000, 40000, -40000, 40000);
        due("as many as there are marks", desk.draw(), 600);
        due("the others are lost", desk.count(7), 160003 - 600);
    }

    private static void hatch() {
        CHECK.part("promise 18");
        DrawLabels desk = Check.deskWith(0, 0, 100, 0, 0, 100);
        Check.area(desk, 0, 1, 2);
        due("least", desk.hatch(1000), 10);
        due("above", desk.hatch(1001), OUTSIDE);
        due("below", desk.hatch(9), OUTSIDE);
        CHECK.dueText("0 alone", Check.drawn(desk), "S 0 100 100 100 0/");
        due("stays", desk.hatch(50), 1000);
        CHECK.dueText("two", Check.drawn(desk), "S 0 100 100 100 0/S 0 50 50 50 0/");
        due("what it was", desk.hatch(10), 50);
        due("ten and F", desk.draw(), 11);
    }

    private static void scale() {
        CHECK.part("promise 19");
        DrawLabels desk = new DrawLabels();
        desk.sheet(100, 50, 5);
        due("by height: up", desk.scale(true), 2);
        due("by height: down", desk.scale(false), 5);
        desk.window(0, 300, 0, 100);
        due("by width: up", desk.scale(true), 3);
        due("by width: down", desk.scale(false), 10);
        due("code", desk.code(), 0);
        desk.window(3, 3, 0, 10);
        due("no width", desk.scale(true), 0);
        due("code", desk.code(), 6);
        desk.window(0, 10, 3, 3);
        due("no height", desk.scale(false), 0);
        due("code", desk.code(), 6);
        desk.window(0, 1, 0, 1);
        due("great", desk.scale(true), 40);
        due("code is done again", desk.code(), 0);
        desk.window(-40000, 40000, -40000, 40000);
        due("small: up", desk.scale(true), 1);
        due("small: down", desk.scale(false), 2000);
    }

    private static void single() {
        CHECK.part("promise 20");
        DrawLabels desk = Check.deskWith(1, 2, 4, 6, -20000, 20000);
        desk.window(0, 3, 0, 3);
        CHECK.dueFloat("X", desk.single(0, 0), 100f / 3f);
        CHECK.dueFloat("Y", desk.single(0, 1), 100f / 3f);
        CHECK.dueFloat("X outside of the window", desk.single(1, 0), 400f / 3f);
        CHECK.dueFloat("Y below 0", desk.single(1, 1), -100f);
        CHECK.dueFloat("square from 0, 0", desk.single(0, 2), 5f);
        CHECK.dueFloat("square from the point before", desk.single(1, 2), 25f);
        CHECK.dueFloat("the float next to the square", desk.single(2, 2), (float) (20004L * 20004L + 19994L * 19994L));
        due("code", desk.code(), 0);
        desk.window(0, 39999, 0, 39998);
        // In least terms: 50 + 100 (2 . -20000 - 39999) / (2 . 39999), over 39999.
        CHECK.dueFloat("least terms", desk.single(2, 0), -2000000f / 39999f);
        desk.window(0, 0, 0, 9);
        CHECK.dueFloat("no scale", desk.single(0, 0), 0f);
        due("code", desk.code(), 6);
        CHECK.dueFloat("no point", desk.single(3, 0), -100001f);
        CHECK.dueFloat("no point below 0", desk.single(-1, 9), -100001f);
        CHECK.dueFloat("what 3", desk.single(0, 3), -100002f);
        CHECK.dueFloat("what -1", desk.single(0, -1), -100002f);
        due("refusals leave the code", desk.code(), 6);
        CHECK.dueFloat("the square needs no scale", desk.single(0, 2), 5f);
        due("code", desk.code(), 0);
        CHECK.dueFloat("no scale for Y", desk.single(0, 1), 0f);
        due("code", desk.code(), 6);
        desk.window(0, 100, 0, 100);
        desk.move(0, 9, 0);
        desk.tick(1);
        CHECK.dueFloat("as it is now", desk.single(0, 0), 10f);
    }

    private static void dueSingle(int left, int right, int sheet, int x, float want) {
        DrawLabels desk = Check.deskWith(x, -x);
        desk.window(left, right, -right, -left);
        desk.sheet(sheet, sheet, 0);
        CHECK.dueFloat("X of " + x, desk.single(0, 0), want);
        CHECK.dueFloat("Y of " + -x, desk.single(0, 1), want);
    }

    private static void singleEdges() {
        CHECK.part("promise 20, edges");
        // Both numbers as floats, the one by the other: not what doubles would tell.
        dueSingle(-29569, 14721, 399, 17554, 18802077f / 44290f);
        dueSingle(-35380, -29964, 361, 16075, 18575255f / 5416f);
        // In least terms: 17735235 / 45513 would tell another float.
        dueSingle(-34041, 11472, 335, 18900, 5911745f / 15171f);
        dueSingle(-38850, -16566, 303, 19873, 5931023f / 7428f);
        dueSingle(-50, 50, 100, -50, 0f);
        dueSingle(-50, 50, 100, 50, 100f);
        dueSingle(-50, 50, 100, -51, -1f);
        dueSingle(-50, 51, 101, -50, 0f);
        dueSingle(-50, 51, 100, 0, 5000f / 101f);
        int[][] places = {{4096, 0}, {8192, 3}, {8193, 2}, {5793, 0}, {-20000, 19999}};
        for (int[] place : places) {
            DrawLabels desk = Check.deskWith(place[0], place[1], 0, 0);
            float want = (float) ((long) place[0] * place[0] + (long) place[1] * place[1]);
            CHECK.dueFloat("square from 0, 0", desk.single(0, 2), want);
            CHECK.dueFloat("square from the POINT before it", desk.single(1, 2), want);
        }
        CHECK.dueFloat("next to 67108873", Check.deskWith(8192, 3).single(0, 2), 67108872f);
        CHECK.dueFloat("next to 67125253", Check.deskWith(8193, 2).single(0, 2), 67125256f);
        DrawLabels far = Check.deskWith(-20000, -20000, 20000, 20000);
        far.move(0, -100, -100);
        far.move(1, 100, 100);
        far.tick(100);
        CHECK.dueFloat("the greatest square", far.single(1, 2), 7200000000f);
        CHECK.dueFloat("of the first one", far.single(0, 2), 1800000000f);
    }
}
