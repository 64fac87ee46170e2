import java.util.function.Function;
import java.util.function.Supplier;

/**
 * Two desks built alike, of which one gets a call more. All that can be asked of both, and all that calls behind it
 * bring to light, tells whether that call changed anything. No desk gets more than 512 calls.
 */
final class Twins {
    private static final int[] LOOKED_AT = {0, 1, 2, 3, 4, 58, 59};

    private final Check check;

    Twins(Check check) {
        this.check = check;
    }

    /** A call that answers as it is due, and behind which all is as without it, CODE too. */
    void refused(String name, Supplier<DrawLabels> build, Function<DrawLabels, Number> call, double want) {
        DrawLabels called = build.get();
        answered(name, called, call, want);
        check.dueText(name + ": all behind it", all(called), all(build.get()));
    }

    /** A call that answers 0 with a CODE above 0, and behind which all else is as without it. */
    void failed(String name, Supplier<DrawLabels> build, Function<DrawLabels, Number> call, int code) {
        DrawLabels called = build.get();
        DrawLabels other = build.get();
        check.due(name + ": CODE ahead of it is another one", other.code() == code ? 1 : 0, 0);
        answered(name, called, call, 0);
        check.due(name + ": CODE", called.code(), code);
        check.dueText(name + ": all behind it", allButCode(called), allButCode(other));
    }

    private void answered(String name, DrawLabels desk, Function<DrawLabels, Number> call, double want) {
        check.dueText(name, Double.toString(call.apply(desk).doubleValue()), Double.toString(want));
    }

    /** A desk on which nothing is as at first, with room for more of everything; CODE is 2. */
    static DrawLabels used() {
        DrawLabels desk = Check.deskWith(10, 10, 40, 20, 30, 60, 70, 70, 25, 45);
        desk.move(1, 2, -1);
        desk.move(4, -3, 2);
        desk.tick(5);
        desk.object(0, 4, 0, 0);
        desk.object(1, 0, 1, 0);
        desk.object(2, 1, 2, 0);
        desk.object(3, 2, 3, 0);
        desk.object(4, 0, 1, 0);
        desk.object(5, 0, 1, 2);
        desk.object(6, 0, 3, 2);
        Check.area(desk, 0, 1, 3);
        desk.style(1, 1);
        desk.style(4, 2);
        desk.style(7, 1);
        desk.corner(2);
        desk.corner(3);
        desk.hide(3, true);
        desk.hide(9, true);
        desk.window(-10, 90, 0, 80);
        desk.sheet(120, 90, 3);
        desk.grid(40);
        desk.hatch(15);
        desk.view(3);
        addSolids(desk);
        desk.label(0, 2);
        desk.label(1, 1);
        desk.label(7, 3);
        desk.group(0, 8, 3);
        desk.put(0, 0, 1);
        desk.put(0, 2, 4);
        desk.group(1, 1, 2);
        desk.put(1, 1, 1);
        desk.group(2, 4, 0);
        desk.draw();
        desk.tick(6);
        desk.label(4, 1);
        desk.reach(0);
        return desk;
    }

    private static void addSolids(DrawLabels desk) {
        desk.solid(0, 2);
        desk.vertex(0, 0, 0, 0);
        desk.vertex(0, 9, 0, 1);
        desk.vertex(0, 0, 8, 2);
        desk.vertex(0, 1, 1, 7);
        desk.vertex(0, 6, 6, 6);
        desk.vertex(0, 7, 6, 5);
        desk.face(0, 3, 0x210);
        desk.face(0, 3, 0x312);
        desk.solid(3, 1);
        desk.vertex(1, 0, 0, 0);
        desk.vertex(1, 5, 0, 0);
        desk.vertex(1, 0, 5, 5);
        desk.face(1, 3, 0x210);
    }

    /** The desk above without a SCALE. */
    static DrawLabels flat() {
        DrawLabels desk = used();
        desk.window(5, 5, 0, 10);
        return desk;
    }

    /** A desk that is full of everything; its objects 0 .. 6 are of these KINDS, 7 is an AREA; CODE is 6. */
    static DrawLabels full() {
        DrawLabels desk = new DrawLabels();
        for (int p = 0; p < 60; p++) {
            desk.point(p * 7 % 100, p * 13 % 100);
        }
        desk.move(59, 1, 2);
        desk.tick(3);
        for (int o = 0; o < 7; o++) {
            desk.object(o, o, o + 20, 2);
        }
        Check.area(desk, 1, 5, 9);
        for (int o = 8; o < 40; o++) {
            desk.object(o % 5, o, o + 9, 0);
        }
        for (int i = 0; i < 12; i++) {
            desk.corner(i * i % 60);
        }
        for (int s = 0; s < 4; s++) {
            desk.solid(s, s + 1);
            for (int k = 0; k < (s == 0 ? 12 : 3); k++) {
                desk.vertex(s, k * 5 % 12, k * 7 % 12, k);
            }
        }
        for (int f = 0; f < 10; f++) {
            desk.face(0, 3, f + 2 << 8 | f + 1 << 4 | f);
        }
        for (int l = 0; l < 20; l++) {
            desk.label(l, 1 + l % 2);
        }
        desk.group(0, 8, 3);
        desk.put(0, 0, 39);
        desk.draw();
        desk.window(5, 5, 0, 10);
        desk.scale(true);
        desk.window(0, 90, 0, 80);
        return desk;
    }

    private static String all(DrawLabels desk) {
        return desk.code() + " " + allButCode(desk);
    }

    private static String allButCode(DrawLabels desk) {
        StringBuilder told = new StringBuilder();
        tellDrawing(desk, told);
        for (int side = 0; side < 4; side++) {
            add(told, desk.side(side));
        }
        tellPoints(desk, told);
        tellGroups(desk, told);
        add(told, desk.tick(100));
        tellPoints(desk, told);
        desk.tick(50);
        tellSettings(desk, told);
        tellRooms(desk, told);
        tellNextDrawing(desk, told);
        return told.toString();
    }

    private static void add(StringBuilder told, long answer) {
        told.append(answer).append(' ');
    }

    private static void tellDrawing(DrawLabels desk, StringBuilder told) {
        told.append("/ drawing ");
        for (int what = 0; what < 12; what++) {
            add(told, desk.count(what));
        }
        add(told, desk.digest());
        for (int l = 0; l < 20; l++) {
            add(told, desk.placed(l));
        }
    }

    private static void tellPoints(DrawLabels desk, StringBuilder told) {
        told.append("/ points ");
        for (int p : LOOKED_AT) {
            add(told, desk.at(p, 0));
            add(told, desk.at(p, 1));
        }
    }

    private static void tellGroups(DrawLabels desk, StringBuilder told) {
        told.append("/ groups ");
        for (int g = 0; g < 4; g++) {
            for (int i = 0; i < 4; i++) {
                add(told, desk.member(g, i));
                add(told, desk.code());
            }
        }
    }

    private static void tellSettings(DrawLabels desk, StringBuilder told) {
        told.append("/ settings ");
        add(told, desk.scale(true));
        add(told, desk.scale(false));
        int objects = desk.count(1);
        for (int o = 0; o < objects; o++) {
            add(told, desk.style(o, o % 3));
        }
        for (int kind = 0; kind < 10; kind++) {
            add(told, desk.hide(kind, false));
        }
        add(told, desk.grid(70));
        add(told, desk.hatch(30));
    }

    /** How much more there may be of everything; what is in THE CHAIN is told by the area of it. */
    private static void tellRooms(DrawLabels desk, StringBuilder told) {
        told.append("/ rooms ");
        for (int s = 0; s < 5; s++) {
            add(told, desk.edge(s, -1, 0));
            add(told, desk.edge(s, 0, 3));
            add(told, desk.edge(s, 2, 3));
            add(told, desk.edge(s, 2, 2));
            add(told, desk.vertex(s, 3, 2, 1));
            add(told, desk.face(s, 3, 0x210));
        }
        add(told, desk.view(4));
        add(told, desk.corner(1));
        int area = desk.area();
        add(told, area);
        add(told, desk.measure(area));
        add(told, desk.corner(4));
        add(told, desk.object(0, 1, 0, 0));
        add(told, desk.point(1, 1));
        add(told, desk.solid(1, 1));
        add(told, desk.label(0, 1));
    }

    private static void tellNextDrawing(DrawLabels desk, StringBuilder told) {
        told.append("/ next ");
        add(told, desk.draw());
        add(told, desk.mark(0, 1));
        add(told, desk.mark(0, 2));
        desk.window(0, 99, 0, 98);
        add(told, desk.draw());
        tellDrawing(desk, told);
    }
}
