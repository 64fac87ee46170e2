/** Promises 26 and 29: labels and their places. */
public final class LabelsTest {
    private static final int UNKNOWN = DrawLabels.UNKNOWN, OUTSIDE = DrawLabels.OUTSIDE;
    private static final int FULL = DrawLabels.FULL, NONE = DrawLabels.NONE;
    private static final Check CHECK = new Check("LabelsTest");

    public static void main(String[] args) {
        label();
        placed();
        places();
        open();
        anchors();
        out();
        costOfDots();
        costOfStrokes();
        best();
        fewestOut();
        rounds();
        CHECK.end();
    }

    private static void due(String call, long got, long want) {
        CHECK.due(call, got, want);
    }

    private static void label() {
        CHECK.part("promise 26");
        DrawLabels desk = Check.deskWith(50, 50);
        due("no object", desk.label(0, 1), UNKNOWN);
        desk.object(0, 0, 0, 0);
        due("n 0", desk.label(0, 0), OUTSIDE);
        due("n 9", desk.label(0, 9), OUTSIDE);
        due("UNKNOWN goes first", desk.label(1, 9), UNKNOWN);
        due("no object below 0", desk.label(-1, 1), UNKNOWN);
        for (int l = 0; l < 20; l++) {
            due("number", desk.label(0, 1 + l % 8), l);
        }
        due("the 21st", desk.label(0, 1), FULL);
        due("OUTSIDE goes ahead of FULL", desk.label(0, 0), OUTSIDE);
        due("count", desk.count(3), 20);
    }

    private static void placed() {
        CHECK.part("promise 29");
        DrawLabels desk = Check.deskWith(50, 50, -1, 0);
        desk.object(0, 0, 0, 0);
        desk.object(0, 1, 0, 0);
        due("no label", desk.placed(0), UNKNOWN);
        desk.label(0, 1);
        due("no drawing", desk.placed(0), NONE);
        desk.draw();
        due("placed", desk.placed(0), 0);
        desk.label(1, 1);
        due("not there then", desk.placed(1), NONE);
        desk.draw();
        due("its object has no mark", desk.placed(1), 8);
        due("no label 2", desk.placed(2), UNKNOWN);
        due("no label below 0", desk.placed(-1), UNKNOWN);
    }

    /** A dot's label of n letters goes where the sheet's ends leave room. */
    private static void dueWord(String want, int x, int y, int n) {
        DrawLabels desk = Check.deskWith(x, y);
        desk.object(0, 0, 0, 0);
        desk.label(0, n);
        String all = Check.drawn(desk);
        CHECK.dueText("dot at " + x + ", " + y + " with " + n, all.substring(all.indexOf('/') + 1), want);
    }

    private static void places() {
        CHECK.part("places");
        dueWord("W 53 46 1 0/", 50, 50, 1);
        dueWord("W 52 89 1 0/", 50, 0, 1);
        dueWord("W 92 88 1 0/", 95, 0, 1);
        dueWord("W 92 39 1 0/", 100, 50, 1);
        dueWord("W 91 1 1 0/", 100, 95, 1);
        dueWord("W 42 2 1 0/", 50, 100, 1);
        dueWord("W 2 3 1 0/", 5, 100, 1);
        dueWord("W 2 2 1 0/", 0, 100, 1);
        dueWord("W 53 46 7 0/", 50, 50, 7);
        dueWord("W 52 39 8 0/", 50, 50, 8);
        dueWord("W 27 38 8 0/", 51, 50, 8);
        dueWord("W 49 39 8 0/", 99, 50, 8);
    }

    private static void open() {
        CHECK.part("open places");
        dueWord("W 94 46 1 0/", 91, 50, 1);
        dueWord("W 94 39 1 0/", 92, 50, 1);
        dueWord("W 53 91 1 0/", 50, 5, 1);
        dueWord("W 52 85 1 0/", 50, 4, 1);
        dueWord("W 53 0 1 0/", 50, 96, 1);
        dueWord("W 42 5 1 0/", 50, 97, 1);
        DrawLabels small = Check.deskWith(8, 8);
        small.sheet(16, 16, 0);
        small.window(0, 16, 0, 16);
        small.object(0, 0, 0, 0);
        small.label(0, 1);
        CHECK.dueText("no place is open", Check.drawn(small), "D 8 8 0/");
        due("out", small.placed(0), 8);
    }

    private static void anchors() {
        CHECK.part("anchors");
        DrawLabels desk = Check.deskWith(0, 0, 5, 5, 50, 50, 70, 50, 41, 41, 49, 41, 41, 49, 20, 95);
        int piece = desk.object(1, 0, 1, 0);
        desk.label(piece, 1);
        CHECK.dueText("piece, rounded down", Check.drawn(desk), "S 0 100 5 95 0/W 4 86 1 0/");
        desk.hide(1, true);
        desk.label(desk.object(4, 2, 3, 0), 1);
        CHECK.dueText("circle", Check.drawn(desk), "C 50 50 20 0 0/W 53 26 1 1/");
        desk.hide(4, true);
        desk.label(Check.area(desk, 4, 5, 6), 2);
        CHECK.dueText("area without strokes", Check.drawn(desk), "W 46 52 2 2/");
        desk.hide(7, true);
        desk.label(desk.object(5, 3, 2, 4), 1);
        CHECK.dueText("angle", Check.drawn(desk), "A 50 50 0 5 2/W 53 46 1 3/");
        desk.hide(5, true);
        desk.label(desk.object(6, 2, 3, 1), 1);
        CHECK.dueText("ticks", Check.drawn(desk), "T 60 50 1 0/W 63 46 1 4/");
        desk.hide(6, true);
        desk.label(desk.object(2, 7, 2, 0), 1);
        // The line through 20, 95 and 50, 50: from 16.67, 100 to 83.33, 0, so 17, 0 and 83, 100.
        CHECK.dueText("line", Check.drawn(desk), "S 17 0 83 100 0/W 53 46 1 5/");
        desk.hide(2, true);
        desk.label(desk.object(3, 2, 7, 0), 1);
        // Its middle is 33.5, 25.
        CHECK.dueText("ray", Check.drawn(desk), "S 50 50 17 0 0/W 35 14 1 6/");
        DrawLabels far = Check.deskWith(-300, 10, -310, 20, -301, 25);
        Check.area(far, 0, 1, 2);
        far.label(0, 1);
        CHECK.dueText("area outside of the window has a label that is out", Check.drawn(far), "");
        due("out", far.placed(0), 8);
    }

    private static void out() {
        CHECK.part("out");
        DrawLabels desk = Check.deskWith(50, 50, 20, 20, 30, 30);
        desk.object(0, 0, 0, 0);
        desk.object(1, 1, 1, 0);
        Check.area(desk, 0, 1, 2);
        desk.label(0, 1);
        desk.label(1, 1);
        desk.label(2, 1);
        desk.draw();
        due("fallen piece", desk.placed(1), 8);
        due("fallen area", desk.placed(2), 8);
        due("how many", desk.count(9), 2);
        desk.hide(0, true);
        desk.draw();
        due("hidden", desk.placed(0), 8);
        due("how many", desk.count(9), 3);
    }

    private static void costOfDots() {
        CHECK.part("cost of dots");
        // The label of the dot at 50, 50 takes 53 .. 58, 46 .. 54 on place 0.
        int[][] taken = {{53, 46}, {58, 46}, {53, 54}, {58, 54}, {55, 50}};
        int[][] free = {{52, 50}, {59, 50}, {55, 55}, {58, 45}};
        for (int[] place : taken) {
            due("a dot on it", placeBeside(place[0], place[1]) == 0 ? 1 : 0, 0);
        }
        for (int[] place : free) {
            due("a dot beside it", placeBeside(place[0], place[1]), 0);
        }
        DrawLabels desk = Check.deskWith(50, 50, 55, 50);
        desk.object(0, 0, 0, 0);
        desk.label(0, 1);
        for (int i = 0; i < 3; i++) {
            desk.object(0, 1, 0, 0);
        }
        desk.window(47, 79, 42, 58);
        desk.sheet(32, 16, 0);
        // All other places lie outside of a sheet this low.
        desk.draw();
        due("each dot costs 10", desk.count(10), 30);
    }

    private static int placeBeside(int x, int y) {
        DrawLabels desk = Check.deskWith(50, 50, x, 100 - y);
        desk.object(0, 0, 0, 0);
        desk.object(0, 1, 0, 0);
        desk.label(0, 1);
        desk.draw();
        return desk.placed(0);
    }

    private static void costOfStrokes() {
        CHECK.part("cost of strokes");
        due("through the corner", placeAt(54, 42, 62, 50), 2);
        due("past the corner", placeAt(55, 42, 63, 50), 0);
        due("through it, both ends outside", placeAt(40, 50, 70, 50), 1);
        due("from end to end of the sheet", placeAt(0, 48, 100, 52), 1);
        due("along its left", placeAt(53, 48, 53, 90), 1);
        due("beside its left", placeAt(52, 48, 52, 90), 0);
        due("all within", placeAt(55, 50, 56, 51), 1);
        DrawLabels desk = Check.deskWith(50, 50, 10, 10, 90, 90, 10, 90, 90, 10);
        desk.object(0, 0, 0, 0);
        desk.object(1, 1, 2, 0);
        desk.object(1, 3, 4, 0);
        desk.label(0, 1);
        desk.draw();
        due("least cost", desk.placed(0), 2);
        due("no stroke there", desk.count(10), 2);
        desk.grid(1);
        desk.draw();
        // Boxes of 6 by 9 are met by 15 grid strokes; place 0 by both pieces, too, and so place 2 by none.
        due("grid", desk.count(10), 62);
    }

    private static int placeAt(int x1, int y1, int x2, int y2) {
        DrawLabels desk = Check.deskWith(50, 50, x1, 100 - y1, x2, 100 - y2);
        desk.object(0, 0, 0, 0);
        desk.object(1, 1, 2, 0);
        desk.label(0, 1);
        desk.draw();
        return desk.placed(0);
    }

    private static void duePlaces(DrawLabels desk, String want) {
        StringBuilder row = new StringBuilder();
        for (int l = 0; l < desk.count(3); l++) {
            row.append(desk.placed(l));
        }
        CHECK.dueText("places", row.toString(), want);
    }

    private static DrawLabels oneDot(int labels) {
        DrawLabels desk = Check.deskWith(50, 50);
        desk.object(0, 0, 0, 0);
        for (int l = 0; l < labels; l++) {
            desk.label(0, 1);
        }
        desk.draw();
        return desk;
    }

    private static void best() {
        CHECK.part("the best of all ways");
        duePlaces(oneDot(2), "02");
        due("cost", oneDot(2).count(10), 2);
        duePlaces(oneDot(3), "024");
        duePlaces(oneDot(6), "024688");
        due("out", oneDot(6).count(9), 2);
        due("cost", oneDot(6).count(10), 12);
        due("no rounds", oneDot(6).count(11), 0);
        // On a sheet this low places 0 and 4 alone are open; label 1 has place 4 alone, so label 0 gives way.
        DrawLabels desk = Check.deskWith(20, 8, 44, 8);
        desk.sheet(48, 16, 0);
        desk.window(0, 48, 0, 16);
        desk.object(0, 0, 0, 0);
        desk.object(0, 1, 0, 0);
        desk.label(0, 2);
        desk.draw();
        duePlaces(desk, "0");
        desk.label(1, 2);
        desk.draw();
        duePlaces(desk, "44");
        due("sum", desk.count(10), 8);
        due("none out", desk.count(9), 0);
    }

    private static void fewestOut() {
        CHECK.part("the fewest out");
        // On a sheet 16 high labels of dots at its middle have place 0 and 4 alone.
        DrawLabels desk = Check.deskWith(20, 8, 28, 8);
        desk.sheet(48, 16, 0);
        desk.window(0, 48, 0, 16);
        desk.object(0, 0, 0, 0);
        desk.object(0, 1, 0, 0);
        desk.label(0, 2);
        desk.label(1, 2);
        desk.draw();
        // Label 0 on place 0 takes 23 .. 34 and the dot at 28; on place 4 it takes 5 .. 16.
        duePlaces(desk, "40");
        due("costs", desk.count(10), 4);
        desk.label(1, 2);
        desk.draw();
        duePlaces(desk, "408");
        due("of three one is out", desk.count(9), 1);
    }

    private static void rounds() {
        CHECK.part("rounds");
        DrawLabels desk = oneDot(7);
        duePlaces(desk, "0246888");
        due("rounds", desk.count(11), 2);
        due("out", desk.count(9), 3);
        due("costs", desk.count(10), 12);
        CHECK.dueText("words", Check.drawn(desk), "D 50 50 0/W 53 46 1 0/W 47 38 1 1/W 41 46 1 2/W 47 53 1 3/");
        // As in the best of all ways above, but by rounds label 0 does not give way.
        DrawLabels low = Check.deskWith(20, 8, 44, 8);
        low.sheet(48, 16, 0);
        low.window(0, 48, 0, 16);
        low.object(0, 0, 0, 0);
        low.object(0, 1, 0, 0);
        for (int l = 0; l < 7; l++) {
            low.label(l % 2, 2);
        }
        low.draw();
        duePlaces(low, "0848888");
        due("rounds", low.count(11), 2);
        DrawLabels small = Check.deskWith(8, 8);
        small.sheet(16, 16, 0);
        small.window(0, 16, 0, 16);
        small.object(0, 0, 0, 0);
        for (int l = 0; l < 7; l++) {
            small.label(0, 1);
        }
        small.draw();
        due("none placed: one round", small.count(11), 1);
        due("all out", small.count(9), 7);
        DrawLabels six = oneDot(6);
        six.point(-5, -5);
        six.object(0, 1, 0, 0);
        six.label(1, 1);
        six.draw();
        due("a label without a mark does not count", six.count(11), 0);
        duePlaces(six, "0246888");
    }
}
