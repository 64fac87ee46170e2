/** Promises 21 to 25: solids, and how they are drawn. */
public final class SolidsTest {
    private static final int UNKNOWN = DrawLabels.UNKNOWN, OUTSIDE = DrawLabels.OUTSIDE;
    private static final int NOT = DrawLabels.NOT, FULL = DrawLabels.FULL;
    private static final Check CHECK = new Check("SolidsTest");

    public static void main(String[] args) {
        solid();
        vertex();
        face();
        view();
        edge();
        seenFaces();
        seenFromEachView();
        severalSolids();
        drawnCube();
        drawnEnds();
        CHECK.end();
    }

    private static void due(String call, long got, long want) {
        CHECK.due(call, got, want);
    }

    /** A cube whose faces are seen from outside; vertex k has bit 0 for x, 1 for y, 2 for z. */
    private static DrawLabels cube(int m) {
        DrawLabels desk = Check.deskWith(50, 50);
        desk.solid(0, m);
        for (int k = 0; k < 8; k++) {
            desk.vertex(0, 10 * (k & 1), 10 * (k >> 1 & 1), 10 * (k >> 2));
        }
        int[] faces = {0x1320, 0x6754, 0x4510, 0x3762, 0x2640, 0x5731};
        for (int f = 0; f < 6; f++) {
            due("face", desk.face(0, 4, faces[f]), f + 1);
        }
        return desk;
    }

    private static void solid() {
        CHECK.part("promise 21");
        DrawLabels desk = Check.deskWith(0, 0);
        due("no point", desk.solid(1, 1), UNKNOWN);
        due("no point below 0", desk.solid(-1, 0), UNKNOWN);
        due("m 0", desk.solid(0, 0), OUTSIDE);
        due("m 51", desk.solid(0, 51), OUTSIDE);
        due("first", desk.solid(0, 1), 0);
        due("second", desk.solid(0, 50), 1);
        due("third", desk.solid(0, 2), 2);
        due("fourth", desk.solid(0, 2), 3);
        due("fifth", desk.solid(0, 2), FULL);
        due("OUTSIDE goes ahead of FULL", desk.solid(0, 0), OUTSIDE);
        due("count", desk.count(2), 4);
    }

    private static void vertex() {
        CHECK.part("promise 22");
        DrawLabels desk = Check.deskWith(0, 0);
        due("no solid", desk.vertex(0, 0, 0, 0), UNKNOWN);
        desk.solid(0, 1);
        due("x", desk.vertex(0, 101, 0, 0), OUTSIDE);
        due("y", desk.vertex(0, 0, -101, 0), OUTSIDE);
        due("z", desk.vertex(0, 0, 0, 101), OUTSIDE);
        due("x below", desk.vertex(0, -101, 0, 0), OUTSIDE);
        due("y above", desk.vertex(0, 0, 101, 0), OUTSIDE);
        due("z below", desk.vertex(0, 0, 0, -101), OUTSIDE);
        due("UNKNOWN goes first", desk.vertex(1, 101, 0, 0), UNKNOWN);
        for (int k = 0; k < 12; k++) {
            due("number", desk.vertex(0, -100, 100, k), k);
        }
        due("the 13th", desk.vertex(0, 0, 0, 0), FULL);
        due("OUTSIDE goes ahead of FULL", desk.vertex(0, 0, 0, 101), OUTSIDE);
        desk.solid(0, 1);
        due("of another solid", desk.vertex(1, 0, 0, 0), 0);
    }

    private static void face() {
        CHECK.part("promise 23");
        DrawLabels desk = Check.deskWith(0, 0);
        desk.solid(0, 1);
        for (int k = 0; k < 7; k++) {
            desk.vertex(0, k, k * k, 0);
        }
        due("n 2", desk.face(0, 2, 0x999999), OUTSIDE);
        due("n 7", desk.face(0, 7, 0x999999), OUTSIDE);
        due("no solid goes ahead of n", desk.face(1, 2, 0), UNKNOWN);
        due("no solid below 0", desk.face(-1, 2, 0), UNKNOWN);
        due("no vertex", desk.face(0, 3, 0x712), UNKNOWN);
        due("no vertex goes ahead of one twice", desk.face(0, 3, 0x711), UNKNOWN);
        due("one twice, with no vertex behind", desk.face(0, 4, 0xf011), UNKNOWN);
        due("one twice", desk.face(0, 3, 0x101), NOT);
        due("first", desk.face(0, 3, 0x210), 1);
        due("bits above are not heeded", desk.face(0, 3, 0xfffff210), 2);
        due("six", desk.face(0, 6, 0x543210), 3);
        for (int k = 4; k <= 10; k++) {
            due("the same face again", desk.face(0, 3, 0x654), k);
        }
        due("the 11th", desk.face(0, 3, 0x210), FULL);
        due("NOT goes ahead of FULL", desk.face(0, 3, 0x111), NOT);
        due("UNKNOWN goes ahead of FULL", desk.face(0, 3, 0x987), UNKNOWN);
        due("in how many faces 0 1 is", desk.edge(0, 0, 3), 3);
    }

    private static void view() {
        CHECK.part("promise 24");
        DrawLabels desk = new DrawLabels();
        due("first", desk.view(4), 0);
        due("above", desk.view(5), OUTSIDE);
        due("below", desk.view(-1), OUTSIDE);
        due("second", desk.view(1), 4);
        due("count", desk.count(5), 1);
    }

    private static void edge() {
        CHECK.part("promise 25");
        DrawLabels desk = cube(1);
        due("how many", desk.edge(0, -1, 0), 12);
        due("how many, any what", desk.edge(0, -1, 99), 12);
        int[][] edges = {{0, 1}, {0, 2}, {0, 4}, {1, 3}, {1, 5}, {2, 3}, {2, 6}, {3, 7}, {4, 5}, {4, 6}, {5, 7}, {6, 7}};
        for (int k = 0; k < 12; k++) {
            due("lesser of " + k, desk.edge(0, k, 0), edges[k][0]);
            due("greater of " + k, desk.edge(0, k, 1), edges[k][1]);
            due("faces of " + k, desk.edge(0, k, 3), 2);
        }
        for (int view = 0; view <= 4; view++) {
            dueBehind(desk, view);
        }
        due("EDGE 12", desk.edge(0, 12, 0), UNKNOWN);
        due("EDGE -2", desk.edge(0, -2, 0), UNKNOWN);
        due("EDGE goes ahead of what", desk.edge(0, 12, 4), UNKNOWN);
        due("what 4", desk.edge(0, 0, 4), OUTSIDE);
        due("what -1", desk.edge(0, 0, -1), OUTSIDE);
        due("no solid", desk.edge(1, -1, 0), UNKNOWN);
        due("no solid below 0", desk.edge(-1, 0, 0), UNKNOWN);
        DrawLabels flat = Check.deskWith(0, 0);
        flat.solid(0, 1);
        flat.vertex(0, 0, 0, 0);
        flat.vertex(0, 5, 0, 0);
        flat.vertex(0, 0, 5, 0);
        due("no faces", flat.edge(0, -1, 0), 0);
        flat.face(0, 3, 0x210);
        due("seen from above", flat.edge(0, 0, 2), 0);
        flat.view(1);
        due("a face along the way of the eye is not seen", flat.edge(0, 0, 2), 1);
    }

    /** Whether a face at 0, 0, 0 with two more vertices is seen in a view, and the same one moved elsewhere. */
    private static void dueSeen(int view, int want, int x1, int y1, int z1, int... second) {
        DrawLabels desk = Check.deskWith(0, 0);
        int[][] moved = {{0, 0, 0}, {7, -50, 30}, {-90, 11, -13}};
        for (int s = 0; s < 3; s++) {
            int[] by = moved[s];
            desk.solid(0, 1);
            desk.vertex(s, by[0], by[1], by[2]);
            desk.vertex(s, by[0] + x1, by[1] + y1, by[2] + z1);
            desk.vertex(s, by[0] + second[0], by[1] + second[1], by[2] + second[2]);
            desk.face(s, 3, 0x210);
            desk.view(view);
            due("view " + view + " behind, moved " + s, desk.edge(s, 0, 2), 1 - want);
        }
    }

    private static void seenFaces() {
        CHECK.part("faces that are seen");
        dueSeen(0, 1, 1, 0, 0, 0, 1, 0);
        dueSeen(0, 0, 0, 1, 0, 1, 0, 0);
        dueSeen(1, 1, 0, 0, 1, 1, 0, 0);
        dueSeen(2, 1, 0, 1, 0, 0, 0, 1);
        // N = (1, 1, -1), (2, 0, -1), (0, 2, -1): N . E = 0 for E = (1, 1, 2).
        dueSeen(3, 0, 1, 0, 1, 0, -1, -1);
        dueSeen(3, 0, 1, 0, 2, 0, -1, 0);
        dueSeen(3, 0, 1, 0, 0, 0, -1, -2);
        // N = (1, 0, -1), (0, 1, -1), (1, -1, 0): N . E = 0 for E = (1, 1, 1).
        dueSeen(4, 0, 1, 0, 1, 0, -1, 0);
        dueSeen(4, 0, 1, 0, 0, 0, -1, -1);
        dueSeen(4, 0, 1, 1, 0, 0, 0, -1);
        dueSeen(4, 0, 1, 1, 0, 0, 0, 1);
    }

    private static void seenFromEachView() {
        CHECK.part("SEEN, if N . E is above 0");
        int[][] eyes = {{0, 0, 1}, {0, 1, 0}, {1, 0, 0}, {1, 1, 2}, {1, 1, 1}};
        for (int view = 0; view <= 4; view++) {
            for (int p = -4; p <= 4; p++) {
                for (int q = -4; q <= 4; q++) {
                    // (1, 0, p) x (0, 1, q) is (-p, -q, 1).
                    int towards = -p * eyes[view][0] - q * eyes[view][1] + eyes[view][2];
                    dueSeen(view, towards > 0 ? 1 : 0, 1, 0, p, 0, 1, q);
                    dueSeen(view, towards < 0 ? 1 : 0, 0, 1, q, 1, 0, p);
                }
            }
        }
    }

    private static void severalSolids() {
        CHECK.part("several solids");
        DrawLabels desk = Check.deskWith(10, 10, 50, 10, 10, 50, 50, 50);
        for (int s = 0; s < 4; s++) {
            desk.solid(s, s + 1);
            for (int k = 0; k < 12; k++) {
                desk.vertex(s, k, k * k % 7, 0);
            }
            desk.face(s, 3, 0xba9);
        }
        for (int s = 0; s < 4; s++) {
            due("edges", desk.edge(s, -1, 0), 3);
            due("lesser", desk.edge(s, 2, 0), 10);
            due("greater", desk.edge(s, 2, 1), 11);
        }
        // Vertices 9, 10, 11 are at 9, 4; 10, 2; 11, 2.
        CHECK.dueText("by number", Check.drawn(desk), "S 19 86 20 88 0/S 19 86 21 88 0/S 20 88 21 88 0/"
                + "S 68 82 70 86 0/S 68 82 72 86 0/S 70 86 72 86 0/"
                + "S 37 38 40 44 0/S 37 38 43 44 0/S 40 44 43 44 0/"
                + "S 86 34 90 42 0/S 86 34 94 42 0/S 90 42 94 42 0/");
    }

    private static void dueBehind(DrawLabels desk, int view) {
        desk.view(view);
        int[][] eyes = {{0, 0, 1}, {0, 1, 0}, {1, 0, 0}, {1, 1, 2}, {1, 1, 1}};
        for (int k = 0; k < 12; k++) {
            int a = desk.edge(0, k, 0);
            int b = desk.edge(0, k, 1);
            // An edge of a cube is seen, if it lies in one of the sides x, y, z = 10 that the eye is ahead of.
            boolean seen = false;
            for (int axis = 0; axis < 3; axis++) {
                seen = seen || eyes[view][axis] > 0 && (a >> axis & b >> axis & 1) == 1;
            }
            due("view " + view + " edge " + k + " behind", desk.edge(0, k, 2), seen ? 0 : 1);
        }
    }

    private static void drawnCube() {
        CHECK.part("promise 27, solids");
        DrawLabels desk = cube(2);
        CHECK.dueText("from above: upright edges are at one place", Check.drawn(desk),
                "S 50 50 70 50 1/S 50 50 50 30 1/S 70 50 70 30 1/S 50 30 70 30 1/"
                + "S 50 50 70 50 0/S 50 50 50 30 0/S 70 50 70 30 0/S 50 30 70 30 0/");
        desk.hide(9, true);
        CHECK.dueText("without edges behind", Check.drawn(desk),
                "S 50 50 70 50 0/S 50 50 50 30 0/S 70 50 70 30 0/S 50 30 70 30 0/");
        desk.hide(8, true);
        CHECK.dueText("hidden", Check.drawn(desk), "");
        // A desk is used for 512 calls at most.
        desk = cube(2);
        desk.hide(9, true);
        desk.view(3);
        CHECK.dueText("view 3", Check.drawn(desk),
                "S 90 50 90 10 0/S 90 50 70 70 0/S 50 10 90 10 0/S 50 10 30 30 0/S 90 10 70 30 0/"
                + "S 30 70 70 70 0/S 30 70 30 30 0/S 70 70 70 30 0/S 30 30 70 30 0/");
        desk.view(4);
        CHECK.dueText("view 4", Check.drawn(desk),
                "S 70 70 70 30 0/S 70 70 50 90 0/S 50 10 70 30 0/S 50 10 30 30 0/S 70 30 50 50 0/"
                + "S 30 70 50 90 0/S 30 70 30 30 0/S 50 90 50 50 0/S 30 30 50 50 0/");
        desk = cube(2);
        desk.view(1);
        CHECK.dueText("view 1: p is x, q is -z", Check.drawn(desk),
                "S 50 50 70 50 1/S 50 50 50 70 1/S 70 50 70 70 1/S 50 50 70 50 0/S 50 50 50 70 0/"
                + "S 70 50 70 70 0/S 50 70 70 70 1/S 50 70 70 70 0/");
        desk.view(2);
        desk.move(0, 3, -2);
        desk.tick(10);
        CHECK.dueText("view 2: p is -z, q is y, from where the point is now", Check.drawn(desk),
                "S 80 70 80 50 1/S 80 70 60 70 1/S 80 70 80 50 0/S 80 70 60 70 0/"
                + "S 80 50 60 50 1/S 80 50 60 50 0/S 60 70 60 50 1/S 60 70 60 50 0/");
    }

    private static void drawnEnds() {
        CHECK.part("promise 27, edges at the window");
        DrawLabels desk = Check.deskWith(90, 50);
        desk.solid(0, 1);
        desk.vertex(0, 20, 10, 0);
        desk.vertex(0, 0, 0, 0);
        desk.vertex(0, 0, 20, 0);
        desk.vertex(0, 60, 0, 0);
        desk.face(0, 3, 0x210);
        desk.face(0, 3, 0x321);
        desk.object(0, 0, 0, 0);
        CHECK.dueText("cut, behind the objects", Check.drawn(desk),
                "D 90 50 0/S 100 45 90 50 1/S 100 35 90 30 1/S 90 50 90 30 1/S 90 50 100 50 1/S 90 30 100 33 1/");
    }
}
