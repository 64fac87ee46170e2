/** Promises 33 to 38: codes and groups. */
public final class GroupsTest {
    private static final int UNKNOWN = DrawLabels.UNKNOWN, OUTSIDE = DrawLabels.OUTSIDE, NONE = DrawLabels.NONE;
    private static final int LOWEST = Integer.MIN_VALUE, HIGHEST = Integer.MAX_VALUE;
    private static final Check CHECK = new Check("GroupsTest");

    public static void main(String[] args) {
        code();
        group();
        put();
        member();
        paint();
        reach();
        CHECK.end();
    }

    private static void due(String call, long got, long want) {
        CHECK.due(call, got, want);
    }

    private static void dueCode(DrawLabels desk, String call, long got, long want, int code) {
        due(call, got, want);
        due(call + ": code", desk.code(), code);
    }

    /** Objects 0 DOT, 1 PIECE, 2 CIRCLE, 3 PIECE. */
    private static DrawLabels desk() {
        DrawLabels desk = Check.deskWith(10, 10, 13, 14);
        desk.object(0, 0, 0, 0);
        desk.object(1, 0, 1, 0);
        desk.object(4, 0, 1, 0);
        desk.object(1, 1, 0, 0);
        return desk;
    }

    private static void code() {
        CHECK.part("promise 33");
        DrawLabels desk = desk();
        due("at first", desk.code(), 0);
        desk.reach(0);
        due("another kind", desk.code(), 2);
        desk.point(0, 0);
        desk.hide(0, true);
        desk.fit();
        desk.measure(0);
        desk.count(0);
        desk.octet(0);
        due("calls without codes leave it", desk.code(), 2);
        desk.reach(99);
        desk.group(9, 9, 9);
        desk.put(0, 0, 99);
        desk.member(-1, 0);
        desk.paint(0, 9);
        desk.single(99, 0);
        due("refused calls leave it", desk.code(), 2);
        desk.scale(true);
        due("done", desk.code(), 0);
    }

    private static void group() {
        CHECK.part("promise 34");
        DrawLabels desk = desk();
        dueCode(desk, "64 places", desk.group(5, 8, 64), 64, 0);
        due("65 places", desk.group(5, 8, 65), OUTSIDE);
        due("very many places", desk.group(5, 8, HIGHEST), OUTSIDE);
        due("kind 9", desk.group(5, 9, 1), OUTSIDE);
        due("kind -1", desk.group(5, -1, 1), OUTSIDE);
        due("group 6", desk.group(6, 0, 1), OUTSIDE);
        due("group -1", desk.group(-1, 0, 1), OUTSIDE);
        due("OUTSIDE goes ahead of the code", desk.group(6, 0, -1), OUTSIDE);
        due("code stays", desk.code(), 0);
        due("put", desk.put(5, 63, 2), 1);
        dueCode(desk, "below 0", desk.group(5, 8, -1), 0, 4);
        dueCode(desk, "far below 0", desk.group(5, 8, LOWEST), 0, 4);
        dueCode(desk, "that changes nothing", desk.member(5, 63), 2, 0);
        dueCode(desk, "anew", desk.group(5, 8, 64), 64, 0);
        dueCode(desk, "is empty then", desk.member(5, 63), 0, 1);
        dueCode(desk, "no places", desk.group(0, 0, 0), 0, 0);
        dueCode(desk, "no place 0", desk.member(0, 0), 0, 3);
    }

    private static void put() {
        CHECK.part("promise 35");
        DrawLabels desk = desk();
        dueCode(desk, "no group", desk.put(0, 0, 0), 0, 1);
        desk.group(0, 1, 2);
        dueCode(desk, "done", desk.put(0, 1, 3), 1, 0);
        dueCode(desk, "another kind", desk.put(0, 0, 0), 0, 2);
        dueCode(desk, "no such place", desk.put(0, 2, 1), 0, 3);
        dueCode(desk, "no such place below 0", desk.put(0, -1, 1), 0, 3);
        dueCode(desk, "the place goes ahead of the kind", desk.put(0, 2, 0), 0, 3);
        due("no object", desk.put(0, 0, 4), UNKNOWN);
        due("no object below NONE", desk.put(0, 0, -2), UNKNOWN);
        due("UNKNOWN goes ahead of OUTSIDE", desk.put(6, 0, 4), UNKNOWN);
        due("no such GROUP", desk.put(6, 0, 0), OUTSIDE);
        due("no such GROUP, nothing to put", desk.put(-1, 0, NONE), OUTSIDE);
        due("code stays", desk.code(), 3);
        dueCode(desk, "it is there", desk.member(0, 1), 3, 0);
        dueCode(desk, "another in its place", desk.put(0, 1, 1), 1, 0);
        dueCode(desk, "it is there", desk.member(0, 1), 1, 0);
        dueCode(desk, "nothing", desk.put(0, 1, NONE), 1, 0);
        dueCode(desk, "nothing is there", desk.member(0, 1), 0, 1);
        dueCode(desk, "nothing at no place", desk.put(0, 2, NONE), 0, 3);
        dueCode(desk, "nothing in no group", desk.put(1, 0, NONE), 0, 1);
        desk.group(1, 8, 4);
        for (int o = 0; o < 4; o++) {
            dueCode(desk, "all kinds", desk.put(1, o, o), 1, 0);
        }
        desk.group(2, 7, 1);
        desk.corner(0);
        desk.corner(1);
        desk.corner(0);
        dueCode(desk, "an area", desk.put(2, 0, desk.area()), 1, 0);
    }

    private static void member() {
        CHECK.part("promise 36");
        DrawLabels desk = desk();
        dueCode(desk, "no group", desk.member(0, 0), 0, 1);
        dueCode(desk, "no group, no such place", desk.member(0, -1), 0, 1);
        desk.group(0, 8, 2);
        dueCode(desk, "nothing there", desk.member(0, 1), 0, 1);
        dueCode(desk, "no such place", desk.member(0, 2), 0, 3);
        dueCode(desk, "no such place below 0", desk.member(0, LOWEST), 0, 3);
        desk.put(0, 1, 2);
        dueCode(desk, "done", desk.member(0, 1), 2, 0);
        due("GROUP 6", desk.member(6, 0), OUTSIDE);
        due("GROUP -1", desk.member(-1, 0), OUTSIDE);
    }

    private static void paint() {
        CHECK.part("promise 37");
        DrawLabels desk = desk();
        dueCode(desk, "no group", desk.paint(0, 1), 0, 1);
        desk.group(0, 8, 4);
        desk.put(0, 0, 1);
        desk.put(0, 1, 1);
        desk.put(0, 3, 2);
        dueCode(desk, "a place with nothing", desk.paint(0, 2), 0, 1);
        due("ahead of it", desk.style(1, 2), 2);
        due("behind it", desk.style(2, 0), 0);
        desk.put(0, 2, 0);
        dueCode(desk, "all", desk.paint(0, 1), 4, 0);
        due("style 0", desk.style(0, 0), 1);
        due("style 1", desk.style(1, 0), 1);
        due("style 2", desk.style(2, 0), 1);
        due("style of one that is not in it", desk.style(3, 0), 0);
        due("s 3", desk.paint(0, 3), OUTSIDE);
        due("s -1", desk.paint(0, -1), OUTSIDE);
        due("GROUP 6", desk.paint(6, 0), OUTSIDE);
        due("GROUP -1", desk.paint(-1, 0), OUTSIDE);
        due("OUTSIDE goes ahead of no GROUP", desk.paint(1, 3), OUTSIDE);
        desk.group(1, 0, 0);
        desk.reach(0);
        dueCode(desk, "no places", desk.paint(1, 0), 0, 0);
    }

    private static void reach() {
        CHECK.part("promise 38");
        DrawLabels desk = desk();
        dueCode(desk, "circle", desk.reach(2), 25, 0);
        dueCode(desk, "another kind", desk.reach(1), 0, 2);
        due("no object", desk.reach(4), UNKNOWN);
        due("no object below 0", desk.reach(-1), UNKNOWN);
        due("code stays", desk.code(), 2);
        desk.move(1, 1, 2);
        desk.tick(5);
        dueCode(desk, "as it is now", desk.reach(2), 64 + 196, 0);
        DrawLabels fallen = Check.deskWith(5, 5, 5, 5);
        fallen.object(4, 0, 1, 0);
        fallen.object(4, 0, 0, 0);
        fallen.object(0, 0, 0, 0);
        fallen.reach(2);
        dueCode(fallen, "a fallen one", fallen.reach(0), 0, 0);
        fallen.reach(2);
        dueCode(fallen, "one of one point", fallen.reach(1), 0, 0);
        for (int kind = 0; kind < 7; kind++) {
            DrawLabels each = Check.deskWith(5, 5, 8, 9, 1, 1);
            each.object(kind, 0, 1, 2);
            dueCode(each, "kind " + kind, each.reach(0), kind == 4 ? 25 : 0, kind == 4 ? 0 : 2);
        }
        DrawLabels wide = Check.deskWith(-20000, -20000, 20000, 20000);
        wide.move(0, -100, -100);
        wide.move(1, 100, 100);
        wide.tick(100);
        wide.object(4, 0, 1, 0);
        dueCode(wide, "the greatest", wide.reach(0), 7200000000L, 0);
    }
}
