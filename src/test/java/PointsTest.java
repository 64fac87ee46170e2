/** Promises 1 to 12: a new object, points and objects. */
public final class PointsTest {
    private static final int UNKNOWN = DrawLabels.UNKNOWN, OUTSIDE = DrawLabels.OUTSIDE;
    private static final int NOT = DrawLabels.NOT, FULL = DrawLabels.FULL, NONE = DrawLabels.NONE;
    private static final int LOWEST = Integer.MIN_VALUE, HIGHEST = Integer.MAX_VALUE;
    private static final Check CHECK = new Check("PointsTest");

    public static void main(String[] args) {
        newObject();
        point();
        move();
        tick();
        at();
        object();
        corner();
        area();
        style();
        hide();
        fallen();
        measure();
        CHECK.end();
    }

    private static void due(String call, long got, long want) {
        CHECK.due(call, got, want);
    }

    private static void newObject() {
        CHECK.part("promise 1");
        DrawLabels desk = new DrawLabels();
        for (int what = 0; what <= 11; what++) {
            due("count " + what, desk.count(what), 0);
        }
        due("code", desk.code(), 0);
        due("left", desk.side(0), 0);
        due("right", desk.side(1), 100);
        due("bottom", desk.side(2), 0);
        due("top", desk.side(3), 100);
        due("up", desk.scale(true), 1);
        due("down", desk.scale(false), 1);
        due("mark", desk.mark(0, 0), UNKNOWN);
        due("octet", desk.octet(0), NONE);
        due("digest", desk.digest(), 17);
        due("placed", desk.placed(0), UNKNOWN);
        due("at", desk.at(0, 0), UNKNOWN);
        due("fallen", desk.fallen(0), UNKNOWN);
        due("edge", desk.edge(0, -1, 0), UNKNOWN);
        due("fit", desk.fit(), NOT);
        due("area", desk.area(), NOT);
        for (int g = 0; g < 6; g++) {
            due("member", desk.member(g, 0), 0);
            due("code without a group", desk.code(), 1);
        }
        for (int kind = 0; kind < 10; kind++) {
            due("hide", desk.hide(kind, false), 0);
        }
        due("tick", desk.tick(0), 0);
        due("view", desk.view(0), 0);
        due("grid", desk.grid(0), 0);
        due("hatch", desk.hatch(10), 10);
        due("draw", desk.draw(), 1);
        CHECK.dueText("octets", Check.octets(desk), "F 100 100/");
        due("constant NONE", NONE, -1);
        due("constant UNKNOWN", UNKNOWN, -100001);
        due("constant OUTSIDE", OUTSIDE, -100002);
        due("constant NOT", NOT, -100003);
        due("constant FULL", FULL, -100004);
        DrawLabels other = new DrawLabels();
        other.point(1, 1);
        due("a new object beside another one", new DrawLabels().count(0), 0);
    }

    private static void point() {
        CHECK.part("promise 2");
        DrawLabels desk = new DrawLabels();
        int[] wrong = {-20001, 20001, LOWEST, HIGHEST};
        for (int w : wrong) {
            due("x outside", desk.point(w, 0), OUTSIDE);
            due("y outside", desk.point(0, w), OUTSIDE);
        }
        due("a refused point is none", desk.count(0), 0);
        due("lowest", desk.point(-20000, -20000), 0);
        due("highest", desk.point(20000, 20000), 1);
        for (int p = 2; p < 60; p++) {
            due("number", desk.point(p, -p), p);
        }
        due("the 61st", desk.point(0, 0), FULL);
        due("OUTSIDE goes ahead of FULL", desk.point(20001, 0), OUTSIDE);
        due("count", desk.count(0), 60);
        due("x", desk.at(59, 0), 59);
        due("y", desk.at(59, 1), -59);
        due("code stays", desk.code(), 0);
    }

    private static void move() {
        CHECK.part("promise 3");
        DrawLabels desk = Check.deskWith(10, 20, 30, 40);
        desk.tick(3);
        due("move", desk.move(0, -100, 100), 1);
        due("x", desk.at(0, 0), 10 - 300);
        due("y", desk.at(0, 1), 20 + 300);
        due("another point stays", desk.at(1, 0), 30);
        due("u outside", desk.move(0, 101, 0), OUTSIDE);
        due("u outside below", desk.move(0, -101, 0), OUTSIDE);
        due("v outside", desk.move(0, 0, 101), OUTSIDE);
        due("v outside below", desk.move(0, 0, -101), OUTSIDE);
        due("v far outside", desk.move(0, 0, LOWEST), OUTSIDE);
        due("no such point", desk.move(2, 0, 0), UNKNOWN);
        due("no point below 0", desk.move(-1, 0, 0), UNKNOWN);
        due("UNKNOWN goes first", desk.move(2, 101, 0), UNKNOWN);
        due("refusals change nothing", desk.at(0, 0), -290);
        due("move anew", desk.move(0, 1, 2), 1);
        due("x from its own x", desk.at(0, 0), 13);
        due("y from its own y", desk.at(0, 1), 26);
    }

    private static void tick() {
        CHECK.part("promise 4");
        DrawLabels desk = Check.deskWith(0, 0);
        desk.move(0, 1, -1);
        due("first", desk.tick(100), 0);
        due("moved", desk.at(0, 0), 100);
        due("again", desk.tick(7), 100);
        due("below 0", desk.tick(-1), OUTSIDE);
        due("above 100", desk.tick(101), OUTSIDE);
        due("far above", desk.tick(HIGHEST), OUTSIDE);
        due("stays", desk.count(4), 7);
        due("moved back", desk.at(0, 1), -7);
    }

    private static void at() {
        CHECK.part("promise 5");
        DrawLabels desk = Check.deskWith(20000, -20000);
        desk.move(0, 100, -100);
        desk.tick(100);
        due("x", desk.at(0, 0), 30000);
        due("y", desk.at(0, 1), -30000);
        due("axis 2", desk.at(0, 2), OUTSIDE);
        due("axis -1", desk.at(0, -1), OUTSIDE);
        due("no point", desk.at(1, 0), UNKNOWN);
        due("no point below 0", desk.at(-1, 0), UNKNOWN);
        due("UNKNOWN goes first", desk.at(1, 2), UNKNOWN);
    }

    private static void object() {
        CHECK.part("promise 6");
        DrawLabels desk = Check.deskWith(0, 0, 5, 5, 9, 0);
        due("dot heeds a alone", desk.object(0, 2, -9, 99), 0);
        for (int kind = 1; kind <= 4; kind++) {
            due("kind " + kind + " does not heed c", desk.object(kind, 0, 1, 99), kind);
            due("kind " + kind + " with no a", desk.object(kind, 3, 1, 0), UNKNOWN);
            due("kind " + kind + " with no b", desk.object(kind, 0, 3, 0), UNKNOWN);
        }
        due("angle", desk.object(5, 0, 1, 2), 5);
        due("angle with no c", desk.object(5, 0, 1, 3), UNKNOWN);
        due("angle with no b", desk.object(5, 0, -1, 2), UNKNOWN);
        due("ticks 1", desk.object(6, 0, 1, 1), 6);
        due("ticks 3", desk.object(6, 0, 1, 3), 7);
        due("ticks 0", desk.object(6, 0, 1, 0), OUTSIDE);
        due("ticks 4", desk.object(6, 0, 1, 4), OUTSIDE);
        due("ticks with no b", desk.object(6, 0, 3, 4), UNKNOWN);
        due("dot with no a", desk.object(0, 3, 0, 0), UNKNOWN);
        due("kind 7", desk.object(7, 0, 0, 0), OUTSIDE);
        due("kind -1 heeds a alone", desk.object(-1, 0, 77, 77), OUTSIDE);
        due("kind 7 with no a", desk.object(7, 3, 0, 0), UNKNOWN);
        due("kind -1 with no a", desk.object(-1, -1, 0, 0), UNKNOWN);
        due("the same point twice", desk.object(1, 0, 0, 0), 8);
        for (int kind = 1; kind <= 6; kind++) {
            DrawLabels same = Check.deskWith(7, 7, 9, 9);
            due("kind " + kind + " of one point", same.object(kind, 1, 1, 1), 0);
            due("kind " + kind + " of one point is fallen", same.fallen(0), 1);
        }
        due("count", desk.count(1), 9);
        for (int o = 9; o < 40; o++) {
            due("number", desk.object(0, 0, 0, 0), o);
        }
        due("the 41st", desk.object(0, 0, 0, 0), FULL);
        due("OUTSIDE goes ahead of FULL", desk.object(6, 0, 1, 0), OUTSIDE);
        due("UNKNOWN goes ahead of FULL", desk.object(1, 0, 3, 0), UNKNOWN);
        due("count when full", desk.count(1), 40);
    }

    private static void corner() {
        CHECK.part("promise 7");
        DrawLabels desk = Check.deskWith(0, 0, 5, 5);
        due("no point", desk.corner(2), UNKNOWN);
        due("no point below 0", desk.corner(-1), UNKNOWN);
        for (int i = 1; i <= 12; i++) {
            due("length", desk.corner(i % 2), i);
        }
        due("the 13th", desk.corner(0), FULL);
        due("UNKNOWN goes ahead of FULL", desk.corner(2), UNKNOWN);
        due("area of twelve", desk.area(), 0);
        due("empty then", desk.corner(0), 1);
    }

    private static void area() {
        CHECK.part("promise 8");
        DrawLabels desk = Check.deskWith(0, 0, 50, 0, 0, 50, 50, 50);
        due("none", desk.area(), NOT);
        desk.corner(0);
        desk.corner(1);
        due("two", desk.area(), NOT);
        due("NOT keeps the chain", desk.corner(2), 3);
        due("three", desk.area(), 0);
        due("measure", desk.measure(0), 2500);
        due("empty again", desk.area(), NOT);
        for (int o = 1; o < 40; o++) {
            desk.object(0, 0, 0, 0);
        }
        due("NOT goes ahead of FULL", desk.area(), NOT);
        desk.corner(0);
        desk.corner(1);
        desk.corner(2);
        due("full", desk.area(), FULL);
        due("FULL keeps the chain", desk.corner(3), 4);
    }

    private static void style() {
        CHECK.part("promise 9");
        DrawLabels desk = Check.deskWith(50, 50);
        desk.object(0, 0, 0, 0);
        due("first", desk.style(0, 2), 0);
        due("second", desk.style(0, 1), 2);
        due("above", desk.style(0, 3), OUTSIDE);
        due("below", desk.style(0, -1), OUTSIDE);
        due("no object", desk.style(1, 0), UNKNOWN);
        due("no object below 0", desk.style(-1, 0), UNKNOWN);
        due("UNKNOWN goes first", desk.style(1, 3), UNKNOWN);
        CHECK.dueText("it is drawn", Check.drawn(desk), "D 50 50 1/");
        due("third", desk.style(0, 0), 1);
    }

    private static void hide() {
        CHECK.part("promise 10");
        DrawLabels desk = Check.deskWith(50, 50, 60, 50);
        desk.object(0, 0, 0, 0);
        desk.object(1, 0, 1, 0);
        due("on", desk.hide(0, true), 0);
        due("on again", desk.hide(0, true), 1);
        CHECK.dueText("hidden", Check.drawn(desk), "S 50 50 60 50 0/");
        due("off", desk.hide(0, false), 1);
        due("off again", desk.hide(0, false), 0);
        CHECK.dueText("not hidden", Check.drawn(desk), "D 50 50 0/S 50 50 60 50 0/");
        DrawLabels each = new DrawLabels();
        for (int kind = 0; kind < 10; kind++) {
            due("kind " + kind + " was not", each.hide(kind, true), 0);
            for (int other = 0; other < 10; other++) {
                due("kind " + other, each.hide(other, other == kind), other == kind ? 1 : 0);
            }
            due("kind " + kind + " was", each.hide(kind, false), 1);
        }
        due("kind 9", desk.hide(9, true), 0);
        due("kind 9 was", desk.hide(9, true), 1);
        due("kind 10", desk.hide(10, true), OUTSIDE);
        due("kind -1", desk.hide(-1, true), OUTSIDE);
        due("far outside", desk.hide(LOWEST, false), OUTSIDE);
    }

    private static void fallen() {
        CHECK.part("promise 11");
        DrawLabels desk = Check.deskWith(0, 0, 1, 0, 0, 0, 5, 5);
        desk.object(0, 0, 0, 0);
        desk.object(1, 0, 2, 0);
        desk.object(2, 0, 2, 0);
        desk.object(3, 0, 2, 0);
        desk.object(4, 0, 2, 0);
        desk.object(6, 0, 2, 1);
        desk.object(5, 0, 2, 3);
        desk.object(5, 3, 2, 0);
        desk.object(5, 0, 3, 2);
        Check.area(desk, 0, 1, 2);
        Check.area(desk, 0, 1, 3);
        int[] due = {0, 1, 1, 1, 1, 1, 1, 1, 0, 1, 0};
        for (int o = 0; o < due.length; o++) {
            due("object " + o, desk.fallen(o), due[o]);
        }
        desk.move(2, 0, 1);
        desk.tick(1);
        for (int o = 0; o < due.length; o++) {
            due("object " + o + " when a point has moved", desk.fallen(o), 0);
        }
        desk.move(1, -1, 1);
        due("an area falls", desk.fallen(9), 1);
        due("no object", desk.fallen(11), UNKNOWN);
        due("no object below 0", desk.fallen(-1), UNKNOWN);
    }

    private static void measure() {
        CHECK.part("promise 12");
        DrawLabels desk = Check.deskWith(-20000, -20000, 20000, -20000, 20000, 20000, -20000, 20000);
        due("square", desk.measure(Check.area(desk, 0, 1, 2, 3)), 3200000000L);
        due("the other way round", desk.measure(Check.area(desk, 3, 2, 1, 0)), -3200000000L);
        due("crossed", desk.measure(Check.area(desk, 0, 2, 1, 3)), 0);
        due("of another kind", desk.measure(desk.object(1, 0, 1, 0)), 0);
        DrawLabels others = Check.deskWith(3, 4, 50, 6, 7, 80);
        for (int kind = 0; kind < 7; kind++) {
            due("of kind " + kind, others.measure(others.object(kind, 0, 1, 2)), 0);
        }
        DrawLabels told = Check.deskWith(0, 0, 0, 9091, 11, 0, 0, 16667, 6, 0);
        due("as a refusal is", told.measure(Check.area(told, 0, 1, 2)), -100001);
        due("as another refusal is", told.measure(Check.area(told, 0, 3, 4)), -100002);
        due("that is not fallen", told.fallen(0), 0);
        due("three times round", desk.measure(Check.area(desk, 0, 1, 2, 3, 0, 1, 2, 3, 0, 1, 2, 3)), 9600000000L);
        desk.move(0, -100, -100);
        desk.move(1, 100, -100);
        desk.move(2, 100, 100);
        desk.move(3, -100, 100);
        desk.tick(100);
        due("as it is now", desk.measure(0), 7200000000L);
        due("no object", desk.measure(5), UNKNOWN);
        due("no object below 0", desk.measure(-1), UNKNOWN);
    }
}
