import java.util.function.Function;

/**
 * What the document's terms say of refusals: of several the first in the order UNKNOWN, OUTSIDE, NOT, FULL, but where
 * a promise says another order; what is refused changes nothing and leaves CODE as it was; a call with a CODE above 0
 * answers 0 and changes nothing, but where that is told.
 */
public final class RefusalsTest {
    private static final int UNKNOWN = DrawLabels.UNKNOWN, OUTSIDE = DrawLabels.OUTSIDE;
    private static final int NOT = DrawLabels.NOT, FULL = DrawLabels.FULL, NONE = DrawLabels.NONE;
    private static final int LOWEST = Integer.MIN_VALUE, HIGHEST = Integer.MAX_VALUE;
    // What count tells how many there are of.
    private static final int POINTS = 0, OBJECTS = 1, SOLIDS = 2, LABELS = 3, MARKS = 6;
    private static final Check CHECK = new Check("RefusalsTest");
    private static final Twins TWINS = new Twins(CHECK);

    /** A call with one number that is looked at. */
    private interface Numbered {
        Number on(DrawLabels desk, int number);
    }

    public static void main(String[] args) {
        pointsAndTick();
        objects();
        objectsInOrder();
        chain();
        stylesAndKinds();
        windowAndSheet();
        singles();
        solids();
        faces();
        edges();
        labelsAndDrawings();
        groups();
        fullDesk();
        codes();
        codesOfGroups();
        codeOfWhatIsDone();
        toldChanges();
        CHECK.end();
    }

    /** Refused alike on a desk with room for more, and on one that is full: nothing goes behind FULL. */
    private static void refused(String name, Function<DrawLabels, Number> call, int want) {
        TWINS.refused(name, Twins::used, call, want);
        TWINS.refused(name + ", all full", Twins::full, call, want);
    }

    /** A number of something: those from 0 on that there are, and no other one. */
    private static void unknown(String name, int what, Numbered call) {
        refused(name + " -1", desk -> call.on(desk, -1), UNKNOWN);
        refused(name + " behind the last one", desk -> call.on(desk, desk.count(what)), UNKNOWN);
        refused(name + " far below", desk -> call.on(desk, LOWEST), UNKNOWN);
        refused(name + " far above", desk -> call.on(desk, HIGHEST), UNKNOWN);
        for (int i = 0; i < 2; i++) {
            DrawLabels desk = i == 0 ? Twins.used() : Twins.full();
            CHECK.due(name + " 0 is known", call.on(desk, 0).longValue() == UNKNOWN ? 1 : 0, 0);
            int last = desk.count(what) - 1;
            CHECK.due(name + " last is known", call.on(desk, last).longValue() == UNKNOWN ? 1 : 0, 0);
        }
    }

    /** A number from a least to a greatest one. */
    private static void outside(String name, int least, int greatest, Numbered call) {
        refused(name + " below the least", desk -> call.on(desk, least - 1), OUTSIDE);
        refused(name + " above the greatest", desk -> call.on(desk, greatest + 1), OUTSIDE);
        refused(name + " far below", desk -> call.on(desk, LOWEST), OUTSIDE);
        refused(name + " far above", desk -> call.on(desk, HIGHEST), OUTSIDE);
        allowed(name + " least", least, call);
        allowed(name + " greatest", greatest, call);
    }

    private static void allowed(String name, int number, Numbered call) {
        long answer = call.on(Twins.used(), number).longValue();
        CHECK.due(name + " is allowed", answer <= UNKNOWN && answer >= FULL ? answer : 0, 0);
    }

    private static void pointsAndTick() {
        CHECK.part("promise 2");
        outside("x", -20000, 20000, (desk, x) -> desk.point(x, 0));
        outside("y", -20000, 20000, (desk, y) -> desk.point(0, y));
        CHECK.part("promise 3");
        unknown("POINT", POINTS, (desk, p) -> desk.move(p, 7, 7));
        outside("u", -100, 100, (desk, u) -> desk.move(1, u, 7));
        outside("v", -100, 100, (desk, v) -> desk.move(1, 7, v));
        refused("UNKNOWN ahead of u", desk -> desk.move(60, 101, 0), UNKNOWN);
        refused("UNKNOWN ahead of v", desk -> desk.move(-1, 0, -101), UNKNOWN);
        CHECK.part("promise 4");
        outside("t", 0, 100, (desk, t) -> desk.tick(t));
        CHECK.part("promise 5");
        unknown("POINT", POINTS, (desk, p) -> desk.at(p, 0));
        outside("axis", 0, 1, (desk, axis) -> desk.at(1, axis));
        refused("UNKNOWN ahead of axis", desk -> desk.at(60, 2), UNKNOWN);
    }

    private static void objects() {
        CHECK.part("promise 6");
        for (int kind = 0; kind <= 6; kind++) {
            int k = kind;
            unknown("KIND " + kind + " a", POINTS, (desk, a) -> desk.object(k, a, 1, 2));
            if (kind > 0) {
                unknown("KIND " + kind + " b", POINTS, (desk, b) -> desk.object(k, 1, b, 2));
            }
        }
        unknown("ANGLE c", POINTS, (desk, c) -> desk.object(5, 1, 2, c));
        outside("KIND", 0, 6, (desk, kind) -> desk.object(kind, 1, 2, 3));
        outside("n of TICKS", 1, 3, (desk, n) -> desk.object(6, 1, 2, n));
    }

    private static void objectsInOrder() {
        CHECK.part("promise 6, several refusals");
        refused("a of TICKS ahead of n", desk -> desk.object(6, 60, 1, 0), UNKNOWN);
        refused("b of TICKS ahead of n", desk -> desk.object(6, 1, 60, 4), UNKNOWN);
        for (int kind : new int[] {-1, 7, 8, LOWEST, HIGHEST}) {
            refused("a of another KIND ahead of the KIND", desk -> desk.object(kind, 60, 1, 1), UNKNOWN);
            refused("b of another KIND is not looked at", desk -> desk.object(kind, 1, 60, 1), OUTSIDE);
            refused("c of another KIND is not looked at", desk -> desk.object(kind, 1, 1, 60), OUTSIDE);
        }
        for (int number : new int[] {-1, 60, LOWEST, HIGHEST}) {
            CHECK.due("b of a DOT is not looked at", Twins.used().object(0, 1, number, 2), 8);
            CHECK.due("c of a DOT is not looked at", Twins.used().object(0, 1, 2, number), 8);
            for (int kind = 1; kind <= 4; kind++) {
                CHECK.due("c of KIND " + kind + " is not looked at", Twins.used().object(kind, 1, 2, number), 8);
            }
        }
    }

    private static void chain() {
        CHECK.part("promise 7");
        unknown("POINT", POINTS, (desk, p) -> desk.corner(p));
        CHECK.part("promise 8");
        TWINS.refused("fewer than 3", Twins::used, DrawLabels::area, NOT);
        TWINS.refused("none", RefusalsTest::fullButChain, DrawLabels::area, NOT);
        TWINS.refused("2, NOT ahead of FULL", () -> chained(2), DrawLabels::area, NOT);
        TWINS.refused("3, but full", () -> chained(3), DrawLabels::area, FULL);
    }

    /** A desk with 40 objects whose chain is empty. */
    private static DrawLabels fullButChain() {
        DrawLabels desk = Check.deskWith(1, 2, 30, 4, 5, 60, 70, 80, 9, 9);
        for (int o = 0; o < 40; o++) {
            desk.object(0, o % 5, 0, 0);
        }
        return desk;
    }

    private static DrawLabels chained(int corners) {
        DrawLabels desk = fullButChain();
        for (int i = 0; i < corners; i++) {
            desk.corner(i);
        }
        return desk;
    }

    private static void stylesAndKinds() {
        CHECK.part("promise 9");
        unknown("OBJECT", OBJECTS, (desk, o) -> desk.style(o, 2));
        outside("s", 0, 2, (desk, s) -> desk.style(2, s));
        refused("UNKNOWN ahead of s", desk -> desk.style(40, 3), UNKNOWN);
        CHECK.part("promise 10");
        outside("KIND on", 0, 9, (desk, kind) -> desk.hide(kind, true));
        outside("KIND off", 0, 9, (desk, kind) -> desk.hide(kind, false));
        CHECK.part("promise 11");
        unknown("OBJECT", OBJECTS, (desk, o) -> desk.fallen(o));
        CHECK.part("promise 12");
        unknown("OBJECT", OBJECTS, (desk, o) -> desk.measure(o));
    }

    private static void windowAndSheet() {
        CHECK.part("promise 13");
        outside("LEFT", -40000, 40000, (desk, left) -> desk.window(left, 40000, 0, 1));
        outside("RIGHT", -40000, 40000, (desk, right) -> desk.window(-40000, right, 0, 1));
        outside("BOTTOM", -40000, 40000, (desk, bottom) -> desk.window(0, 1, bottom, 40000));
        outside("TOP", -40000, 40000, (desk, top) -> desk.window(0, 1, -40000, top));
        refused("LEFT above RIGHT", desk -> desk.window(8, 7, 0, 9), OUTSIDE);
        refused("BOTTOM above TOP", desk -> desk.window(0, 9, -7, -8), OUTSIDE);
        CHECK.due("LEFT as RIGHT", Twins.used().window(7, 7, 0, 9), 1);
        CHECK.due("BOTTOM as TOP", Twins.used().window(0, 9, -8, -8), 1);
        CHECK.part("promise 14");
        TWINS.refused("no OBJECTS", () -> Check.deskWith(3, 4, 50, 60, 7, 7, 8, 9, 1, 2), DrawLabels::fit, NOT);
        TWINS.refused("all HIDDEN", RefusalsTest::allHidden, DrawLabels::fit, NOT);
        CHECK.part("promise 15");
        outside("what", 0, 3, (desk, what) -> desk.side(what));
        CHECK.part("promise 16");
        outside("W", 16, 400, (desk, w) -> desk.sheet(w, 50, 1));
        outside("H", 16, 400, (desk, h) -> desk.sheet(50, h, 1));
        outside("MARGIN", 0, 7, (desk, margin) -> desk.sheet(50, 60, margin));
        CHECK.part("promise 17");
        outside("g", 0, 40000, (desk, g) -> desk.grid(g));
        CHECK.part("promise 18");
        outside("h", 10, 1000, (desk, h) -> desk.hatch(h));
    }

    private static DrawLabels allHidden() {
        DrawLabels desk = Twins.used();
        for (int kind = 0; kind < 8; kind++) {
            desk.hide(kind, true);
        }
        return desk;
    }

    private static void singles() {
        CHECK.part("promise 20");
        for (int what = 0; what <= 2; what++) {
            int w = what;
            unknown("what " + what + ", POINT", POINTS, (desk, p) -> desk.single(p, w));
        }
        outside("what", 0, 2, (desk, what) -> desk.single(1, what));
        refused("UNKNOWN ahead of what", desk -> desk.single(60, 3), UNKNOWN);
        TWINS.refused("UNKNOWN ahead of no SCALE", Twins::flat, desk -> desk.single(5, 0), UNKNOWN);
        TWINS.refused("OUTSIDE ahead of no SCALE", Twins::flat, desk -> desk.single(0, 3), OUTSIDE);
    }

    private static void solids() {
        CHECK.part("promise 21");
        unknown("POINT", POINTS, (desk, p) -> desk.solid(p, 1));
        outside("m", 1, 50, (desk, m) -> desk.solid(1, m));
        refused("UNKNOWN ahead of m", desk -> desk.solid(60, 0), UNKNOWN);
        CHECK.part("promise 22");
        unknown("SOLID", SOLIDS, (desk, s) -> desk.vertex(s, 1, 1, 1));
        outside("x", -100, 100, (desk, x) -> desk.vertex(0, x, 1, 1));
        outside("y", -100, 100, (desk, y) -> desk.vertex(0, 1, y, 1));
        outside("z", -100, 100, (desk, z) -> desk.vertex(0, 1, 1, z));
        refused("UNKNOWN ahead of x", desk -> desk.vertex(4, 101, 0, 0), UNKNOWN);
        refused("UNKNOWN ahead of z", desk -> desk.vertex(-1, 0, 0, -101), UNKNOWN);
        CHECK.part("promise 24");
        outside("THE VIEW", 0, 4, (desk, k) -> desk.view(k));
    }

    private static void faces() {
        CHECK.part("promise 23");
        unknown("SOLID", SOLIDS, (desk, s) -> desk.face(s, 3, 0x210));
        outside("n", 3, 6, (desk, n) -> desk.face(0, n, 0x543210));
        refused("SOLID ahead of n", desk -> desk.face(4, 2, 0x210), UNKNOWN);
        refused("n below ahead of VERTICES", desk -> desk.face(0, 2, 0xffffff), OUTSIDE);
        refused("n above ahead of VERTICES", desk -> desk.face(0, 7, 0xffffff), OUTSIDE);
        refused("n ahead of one twice", desk -> desk.face(0, 2, 0x111111), OUTSIDE);
        refused("no VERTEX 12 anywhere", desk -> desk.face(0, 3, 0xc10), UNKNOWN);
        refused("a VERTEX ahead of one twice", desk -> desk.face(0, 3, 0xf11), UNKNOWN);
        refused("a VERTEX behind one twice", desk -> desk.face(0, 4, 0xf011), UNKNOWN);
        refused("an unknown VERTEX twice", desk -> desk.face(0, 3, 0xee1), UNKNOWN);
        refused("first and second alike", desk -> desk.face(0, 3, 0x211), NOT);
        refused("second and third alike", desk -> desk.face(0, 3, 0x221), NOT);
        refused("first and third alike", desk -> desk.face(0, 3, 0x121), NOT);
        refused("first and third of four alike", desk -> desk.face(0, 4, 0x2101), NOT);
        refused("second and fourth of four alike", desk -> desk.face(0, 4, 0x1210), NOT);
        TWINS.refused("behind the last VERTEX", Twins::used, desk -> desk.face(0, 3, 0x610), UNKNOWN);
        TWINS.refused("of a SOLID with fewer", Twins::used, desk -> desk.face(1, 3, 0x310), UNKNOWN);
        CHECK.due("the last VERTEX", Twins.used().face(0, 3, 0x510), 3);
        TWINS.refused("the sixth one is unknown", RefusalsTest::solidOfSix, desk -> desk.face(0, 6, 0x643210), UNKNOWN);
        TWINS.refused("the first one again as the sixth", RefusalsTest::solidOfSix, desk -> desk.face(0, 6, 0x043210), NOT);
        TWINS.refused("the sixth one as the fifth", RefusalsTest::solidOfSix, desk -> desk.face(0, 6, 0x553210), NOT);
        CHECK.due("all six", solidOfSix().face(0, 6, 0x543210), 1);
        CHECK.due("what is behind n is not looked at", solidOfSix().face(0, 5, 0xfff43210), 1);
        CHECK.due("one twice behind n is not looked at", solidOfSix().face(0, 3, 0x222210), 1);
    }

    private static DrawLabels solidOfSix() {
        DrawLabels desk = Check.deskWith(50, 50, 1, 1, 2, 2, 3, 3, 4, 4);
        desk.solid(0, 1);
        for (int k = 0; k < 6; k++) {
            desk.vertex(0, k, k * k, -k);
        }
        return desk;
    }

    private static void edges() {
        CHECK.part("promise 25");
        for (int what = -1; what <= 4; what++) {
            int w = what;
            unknown("what " + what + ", SOLID", SOLIDS, (desk, s) -> desk.edge(s, -1, w));
            refused("EDGE -2", desk -> desk.edge(0, -2, w), UNKNOWN);
            refused("EDGE far below", desk -> desk.edge(0, LOWEST, w), UNKNOWN);
            refused("EDGE far above", desk -> desk.edge(0, HIGHEST, w), UNKNOWN);
            refused("EDGE behind the last one", desk -> desk.edge(0, desk.edge(0, -1, 0), w), UNKNOWN);
            CHECK.due("how many, any what", Twins.used().edge(0, -1, what), 5);
        }
        CHECK.due("how many, what far off", Twins.used().edge(0, -1, LOWEST), 5);
        CHECK.due("the last EDGE", Twins.used().edge(0, 4, 1), 3);
        outside("what", 0, 3, (desk, what) -> desk.edge(0, 0, what));
        TWINS.refused("no EDGES", RefusalsTest::solidOfSix, desk -> desk.edge(0, 0, 0), UNKNOWN);
        CHECK.due("how many, without FACES", solidOfSix().edge(0, -1, 0), 0);
    }

    private static void labelsAndDrawings() {
        CHECK.part("promise 26");
        unknown("OBJECT", OBJECTS, (desk, o) -> desk.label(o, 1));
        outside("n", 1, 8, (desk, n) -> desk.label(1, n));
        refused("UNKNOWN ahead of n", desk -> desk.label(40, 9), UNKNOWN);
        CHECK.part("promise 28");
        unknown("MARK", MARKS, (desk, k) -> desk.mark(k, 0));
        outside("what", 0, 6, (desk, what) -> desk.mark(1, what));
        refused("UNKNOWN ahead of what", desk -> desk.mark(600, 7), UNKNOWN);
        TWINS.refused("no DRAWING", () -> Check.deskWith(1, 1, 2, 2, 3, 3, 4, 4, 5, 5), desk -> desk.mark(0, 0), UNKNOWN);
        CHECK.part("promise 29");
        unknown("LABEL", LABELS, (desk, l) -> desk.placed(l));
        CHECK.part("promise 30");
        refused("octet -1", desk -> desk.octet(-1), NONE);
        refused("octet behind the last one", desk -> desk.octet(desk.count(8)), NONE);
        refused("octet far below", desk -> desk.octet(LOWEST), NONE);
        refused("octet far above", desk -> desk.octet(HIGHEST), NONE);
        CHECK.due("the first octet", Twins.used().octet(0), 'F');
        DrawLabels desk = Twins.used();
        CHECK.due("the last octet", desk.octet(desk.count(8) - 1), 10);
        CHECK.part("promise 32");
        outside("what", 0, 11, (other, what) -> other.count(what));
    }

    private static void groups() {
        CHECK.part("promise 34");
        outside("g", 0, 5, (desk, g) -> desk.group(g, 8, 3));
        outside("KIND", 0, 8, (desk, kind) -> desk.group(0, kind, 3));
        refused("n 65", desk -> desk.group(0, 8, 65), OUTSIDE);
        refused("n far above", desk -> desk.group(0, 8, HIGHEST), OUTSIDE);
        refused("g ahead of n below 0", desk -> desk.group(6, 8, -1), OUTSIDE);
        refused("KIND ahead of n below 0", desk -> desk.group(0, 9, -1), OUTSIDE);
        CHECK.part("promise 35");
        outside("g", 0, 5, (desk, g) -> desk.put(g, 0, 1));
        outside("g, nothing to put", 0, 5, (desk, g) -> desk.put(g, 0, NONE));
        for (int o : new int[] {-2, 40, LOWEST, HIGHEST}) {
            refused("OBJECT " + o, desk -> desk.put(0, 0, o), UNKNOWN);
            refused("OBJECT " + o + " ahead of g", desk -> desk.put(6, 0, o), UNKNOWN);
            refused("OBJECT " + o + " ahead of no GROUP", desk -> desk.put(3, 0, o), UNKNOWN);
            refused("OBJECT " + o + " ahead of the place", desk -> desk.put(0, 9, o), UNKNOWN);
        }
        refused("OBJECT behind the last one", desk -> desk.put(0, 0, desk.count(1)), UNKNOWN);
        CHECK.part("promise 36");
        outside("g", 0, 5, (desk, g) -> desk.member(g, 0));
        refused("g ahead of the place", desk -> desk.member(6, 9), OUTSIDE);
        CHECK.part("promise 37");
        outside("g", 0, 5, (desk, g) -> desk.paint(g, 1));
        outside("s", 0, 2, (desk, s) -> desk.paint(0, s));
        refused("s ahead of no GROUP", desk -> desk.paint(3, 3), OUTSIDE);
        CHECK.part("promise 38");
        unknown("OBJECT", OBJECTS, (desk, o) -> desk.reach(o));
    }

    private static void fullDesk() {
        CHECK.part("FULL");
        TWINS.refused("POINT 61", Twins::full, desk -> desk.point(1, 2), FULL);
        for (int kind = 0; kind <= 6; kind++) {
            int k = kind;
            TWINS.refused("OBJECT 41 of KIND " + kind, Twins::full, desk -> desk.object(k, 1, 2, 3), FULL);
        }
        TWINS.refused("POINT 13 of THE CHAIN", Twins::full, desk -> desk.corner(3), FULL);
        TWINS.refused("AREA as OBJECT 41", Twins::full, DrawLabels::area, FULL);
        TWINS.refused("SOLID 5", Twins::full, desk -> desk.solid(3, 3), FULL);
        TWINS.refused("VERTEX 13", Twins::full, desk -> desk.vertex(0, 3, 3, 3), FULL);
        TWINS.refused("FACE 11", Twins::full, desk -> desk.face(0, 3, 0xba0), FULL);
        TWINS.refused("FACE 11 of six", Twins::full, desk -> desk.face(0, 6, 0xba9876), FULL);
        TWINS.refused("LABEL 21", Twins::full, desk -> desk.label(1, 1), FULL);
        CHECK.due("a SOLID beside a full one has room", Twins.full().vertex(3, 1, 1, 1), 3);
    }

    private static void codes() {
        CHECK.part("CODE 6");
        TWINS.failed("UP", Twins::flat, desk -> desk.scale(true), 6);
        TWINS.failed("DOWN", Twins::flat, desk -> desk.scale(false), 6);
        TWINS.failed("X", Twins::flat, desk -> desk.single(1, 0), 6);
        TWINS.failed("Y", Twins::flat, desk -> desk.single(1, 1), 6);
        CHECK.part("CODE 2");
        for (int kind = 0; kind <= 7; kind++) {
            int o = kind;
            if (kind != 4) {
                TWINS.failed("reach of KIND " + kind, Twins::full, desk -> desk.reach(o), 2);
            }
        }
        CHECK.part("calls that name no CODES leave it");
        DrawLabels desk = Twins.used();
        desk.point(1, 1);
        desk.move(0, 1, 1);
        desk.tick(2);
        desk.at(0, 0);
        desk.object(0, 0, 0, 0);
        desk.corner(0);
        desk.area();
        desk.style(0, 1);
        desk.hide(0, true);
        desk.fallen(0);
        desk.measure(0);
        desk.window(0, 9, 0, 9);
        desk.fit();
        desk.side(0);
        desk.sheet(90, 90, 0);
        desk.grid(1);
        desk.hatch(11);
        CHECK.due("points, objects, window", desk.code(), 2);
        desk.solid(0, 1);
        desk.vertex(0, 1, 1, 1);
        desk.face(0, 3, 0x210);
        desk.view(1);
        desk.edge(0, 0, 0);
        desk.label(0, 1);
        desk.mark(0, 0);
        desk.placed(0);
        desk.octet(0);
        desk.digest();
        desk.count(0);
        CHECK.due("solids, drawings", desk.code(), 2);
        CHECK.due("asking does not change it", desk.code(), 2);
    }

    private static void codesOfGroups() {
        CHECK.part("promise 34, CODE 4");
        TWINS.failed("n -1", Twins::used, desk -> desk.group(0, 8, -1), 4);
        TWINS.failed("n far below", Twins::used, desk -> desk.group(0, 8, LOWEST), 4);
        TWINS.failed("n -1, no GROUP there", Twins::used, desk -> desk.group(3, 8, -1), 4);
        CHECK.part("promise 35, CODES 1, 3, 2");
        TWINS.failed("no GROUP", Twins::used, desk -> desk.put(3, 0, 1), 1);
        TWINS.failed("no GROUP ahead of the place", Twins::used, desk -> desk.put(3, -1, 1), 1);
        TWINS.failed("no GROUP, nothing to put", Twins::used, desk -> desk.put(3, 0, NONE), 1);
        for (int i : new int[] {-1, 2, 63, 64, LOWEST, HIGHEST}) {
            TWINS.failed("place " + i, Twins::used, desk -> desk.put(1, i, 1), 3);
            TWINS.failed("place " + i + " ahead of the KIND", Twins::used, desk -> desk.put(1, i, 0), 3);
            TWINS.failed("place " + i + ", nothing to put", Twins::used, desk -> desk.put(1, i, NONE), 3);
            TWINS.failed("place " + i + " to ask", Twins::used, desk -> desk.member(1, i), 3);
        }
        TWINS.failed("no places at all", Twins::used, desk -> desk.put(2, 0, 4), 3);
        TWINS.failed("another KIND", RefusalsTest::usedAndDone, desk -> desk.put(1, 0, 0), 2);
        TWINS.failed("another KIND where one is", RefusalsTest::usedAndDone, desk -> desk.put(1, 1, 7), 2);
        CHECK.part("promise 36, CODES 1, 3");
        TWINS.failed("no GROUP", Twins::used, desk -> desk.member(3, 0), 1);
        TWINS.failed("no GROUP ahead of the place", Twins::used, desk -> desk.member(3, -1), 1);
        TWINS.failed("nothing there", Twins::used, desk -> desk.member(0, 1), 1);
        TWINS.failed("no places at all", Twins::used, desk -> desk.member(2, 0), 3);
        CHECK.part("promise 37, CODE 1");
        TWINS.failed("no GROUP", Twins::used, desk -> desk.paint(3, 1), 1);
        TWINS.failed("nothing at place 0", Twins::used, desk -> desk.paint(1, 2), 1);
    }

    /** A call that names CODES and is done makes CODE 0. */
    private static void dueDone(String name, Function<DrawLabels, Number> call) {
        DrawLabels desk = Twins.used();
        CHECK.due(name + ": CODE ahead of it", desk.code(), 2);
        call.apply(desk);
        CHECK.due(name + ": CODE", desk.code(), 0);
    }

    private static void codeOfWhatIsDone() {
        CHECK.part("promise 33: CODE 0 done");
        dueDone("scale", desk -> desk.scale(true));
        dueDone("scale", desk -> desk.scale(false));
        for (int what = 0; what <= 2; what++) {
            int w = what;
            dueDone("single " + what, desk -> desk.single(0, w));
        }
        dueDone("draw", DrawLabels::draw);
        dueDone("group", desk -> desk.group(0, 0, 64));
        dueDone("group without places", desk -> desk.group(0, 0, 0));
        dueDone("put", desk -> desk.put(0, 0, 0));
        dueDone("put nothing", desk -> desk.put(0, 0, NONE));
        dueDone("member", desk -> desk.member(0, 2));
        dueDone("paint no places", desk -> desk.paint(2, 1));
        dueDone("reach", desk -> desk.reach(4));
        DrawLabels desk = Twins.used();
        desk.put(0, 1, 0);
        desk.reach(0);
        CHECK.due("paint", desk.paint(0, 2), 3);
        CHECK.due("paint: CODE", desk.code(), 0);
        DrawLabels flat = Twins.flat();
        CHECK.dueFloat("the square needs no SCALE", flat.single(0, 2), 200f);
        CHECK.due("the square needs no SCALE: CODE", flat.code(), 0);
    }

    private static DrawLabels usedAndDone() {
        DrawLabels desk = Twins.used();
        desk.scale(true);
        return desk;
    }

    /** Where the document tells that a call with a CODE above 0 changes something. */
    private static void toldChanges() {
        CHECK.part("promise 27, CODE 6");
        DrawLabels desk = Twins.flat();
        CHECK.due("draw", desk.draw(), 0);
        CHECK.due("CODE", desk.code(), 6);
        CHECK.dueText("THE DRAWING", Check.octets(desk), "F 120 90/");
        CHECK.due("all LABELS are OUT", desk.count(9), 4);
        for (int l = 0; l < 4; l++) {
            CHECK.due("LABEL " + l, desk.placed(l), 8);
        }
        CHECK.part("promise 37, CODE 1");
        desk = Twins.used();
        CHECK.due("paint", desk.paint(0, 2), 0);
        CHECK.due("CODE", desk.code(), 1);
        CHECK.due("one ahead of the empty place", desk.style(1, 0), 2);
        CHECK.due("one behind it, which was 2", desk.style(4, 0), 2);
        CHECK.due("paint again", desk.paint(0, 1), 0);
        CHECK.due("one ahead of the empty place", desk.style(1, 0), 1);
        CHECK.due("one behind it", desk.style(4, 0), 0);
    }
}
