/**
 * 5 to 7 of the document's "Terms" (LABELS, OCTETS, GROUPS and CODES) from their first line to their last, as TermsTest
 * does with what stands ahead of them: each part is named by the document's own words, in its order.
 */
public final class LabelTermsTest {
    private static final int DOT = 0, PIECE = 1, CIRCLE = 4, TICKS = 6, AREA = 7, ALL = 8;
    private static final int NONE = -1, UNKNOWN = -100001, OUTSIDE = -100002, FULL = -100004;
    private static final Check CHECK = new Check("LabelTermsTest");

    public static void main(String[] args) {
        labels();
        boxes();
        anchors();
        out();
        places();
        open();
        costs();
        meeting();
        best();
        rounds();
        words();
        octets();
        groups();
        codes();
        CHECK.end();
    }

    private static void due(String call, long got, long want) {
        CHECK.due(call, got, want);
    }

    /** Ticks whose middle is at X, Y of a sheet so high with a scale of 1: something for labels that costs nothing. */
    private static int ticksAt(DrawLabels desk, int x, int y, int high) {
        int a = desk.point(x - 1, high - y);
        int b = desk.point(x + 1, high - y);
        return desk.object(TICKS, a, b, 1);
    }

    private static void dotAt(DrawLabels desk, int x, int y, int high) {
        desk.object(DOT, desk.point(x, high - y), 0, 0);
    }

    private static void pieceAt(DrawLabels desk, int x1, int y1, int x2, int y2, int high) {
        int a = desk.point(x1, high - y1);
        desk.object(PIECE, a, desk.point(x2, high - y2), 0);
    }

    /** A sheet 48 wide and so low that BOXES at Y = 8 have PLACES 0 and 4 alone. */
    private static DrawLabels lowDesk() {
        DrawLabels desk = new DrawLabels();
        desk.sheet(48, 16, 0);
        desk.window(0, 48, 0, 16);
        return desk;
    }

    /** The place of each label in a new drawing. */
    private static void duePlaced(String name, DrawLabels desk, String want) {
        desk.draw();
        StringBuilder row = new StringBuilder();
        for (int l = 0; l < desk.count(3); l++) {
            row.append(desk.placed(l));
        }
        CHECK.dueText(name, row.toString(), want);
    }

    /** The last mark of a drawing with one label more. */
    private static void dueWord(String name, DrawLabels desk, int o, int n, String want) {
        desk.label(o, n);
        String all = "/" + Check.drawn(desk);
        CHECK.dueText(name, all.substring(all.lastIndexOf('/', all.length() - 2) + 1), want);
    }

    // ---- 5

    private static void labels() {
        CHECK.part("LABELS (20 at most), numbered from 0 on, of an OBJECT, with n letters (1 .. 8): a BOX, w = 6 n wide, "
                + "9 high.");
        DrawLabels desk = Check.deskWith(50, 50);
        due("no OBJECT", desk.label(0, 1), UNKNOWN);
        desk.object(DOT, 0, 0, 0);
        due("n 0", desk.label(0, 0), OUTSIDE);
        due("n 9", desk.label(0, 9), OUTSIDE);
        for (int l = 0; l < 20; l++) {
            due("LABEL " + l, desk.label(0, 1 + l % 8), l);
        }
        due("LABEL 20", desk.label(0, 1), FULL);
    }

    private static void boxes() {
        // PLACE 0 of X = 50 takes 53 .. 52 + 6 n, which of 8 letters is up to 100; PLACE 1 goes up to 99 then.
        for (int n = 1; n <= 8; n++) {
            DrawLabels desk = new DrawLabels();
            dueWord(n + " letters", desk, ticksAt(desk, 50, 50, 100), n, n < 8 ? "W 53 46 " + n + " 0/" : "W 52 39 8 0/");
        }
        // PLACE 0 of Y = 4 takes 0 .. 8, of Y = 95 it takes 91 .. 99; of Y = 96 PLACE 1 takes 85 .. 93.
        DrawLabels top = new DrawLabels();
        dueWord("Y 4", top, ticksAt(top, 50, 4, 100), 1, "W 53 0 1 0/");
        DrawLabels low = new DrawLabels();
        dueWord("Y 95", low, ticksAt(low, 50, 95, 100), 1, "W 53 91 1 0/");
        DrawLabels lower = new DrawLabels();
        dueWord("Y 96", lower, ticksAt(lower, 50, 96, 100), 1, "W 52 85 1 0/");
    }

    private static void anchors() {
        CHECK.part("Its ANCHOR ax, ay: of a DOT, ANGLE, TICKS the X, Y of its MARK; of a PIECE, LINE, RAY (X1 + X2) / 2, "
                + "(Y1 + Y2) / 2 of its STROKE, rounded down; of a CIRCLE X, Y - r; of an AREA the sums of X and of Y of its "
                + "POINTS' places ON THE SHEET, by how many they are, rounded down.");
        // PLACE 0 is at ax + 3, ay - 4. The anchors: 50, 79; 50, 69.5; 50, 50; 50, 39.5; 50, 79 - 19; 50, 60; 50, 69.5 ROUNDED.
        String[] want = {"W 53 75 1 0/", "W 53 65 1 0/", "W 53 46 1 0/", "W 53 35 1 0/", "W 53 56 1 0/", "W 53 56 1 0/",
            "W 53 66 1 0/"};
        for (int kind = DOT; kind <= TICKS; kind++) {
            DrawLabels desk = Check.deskWith(50, 21, 50, 40, 80, 40);
            dueWord("KIND " + kind, desk, desk.object(kind, 0, 1, kind == TICKS ? 1 : 2), 1, want[kind]);
        }
        // X 20 + 31 + 40 by 3 is 30 1 / 3; Y 50 + 60 + 39 by 3 is 49 2 / 3.
        DrawLabels area = Check.deskWith(20, 50, 31, 40, 40, 61);
        area.hatch(1000);
        dueWord("an AREA", area, Check.area(area, 0, 1, 2), 1, "W 33 45 1 0/");
        // X is x / 2: 10.5, 15.5, 20.5, ROUNDED 11, 16, 21 by 3 is 16; the sum ROUNDED once would be 15.5 and down 15.
        DrawLabels half = Check.deskWith(21, 100, 31, 80, 41, 120);
        half.window(0, 200, 0, 200);
        half.hatch(1000);
        dueWord("ROUNDED places", half, Check.area(half, 0, 1, 2), 1, "W 19 46 1 0/");
    }

    private static void out() {
        CHECK.part("It is OUT, if its OBJECT has no MARK in the DRAWING (an AREA: if it is FALLEN, or HIDDEN by KIND).");
        DrawLabels desk = Check.deskWith(20, 20, 150, 50, 60, 60, 70, 60, 65, 80);
        desk.object(DOT, 0, 0, 0);
        desk.object(DOT, 1, 0, 0);
        desk.object(PIECE, 0, 0, 0);
        Check.area(desk, 2, 3, 4);
        Check.area(desk, 0, 2, 0);
        desk.hatch(1000);
        for (int o = 0; o < 5; o++) {
            desk.label(o, 1);
        }
        duePlaced("a DOT; one outside; a FALLEN PIECE; an AREA without a STROKE; a FALLEN one", desk, "08808");
        due("OUT", desk.count(9), 3);
        desk.hide(AREA, true);
        duePlaced("AREAS are HIDDEN", desk, "08888");
        desk.hide(DOT, true);
        duePlaced("DOTS, too", desk, "88888");
        desk.hide(AREA, false);
        desk.window(0, 0, 0, 100);
        duePlaced("no SCALE", desk, "88888");
    }

    private static void places() {
        CHECK.part("PLACES 0 .. 7 of the BOX (left, top): 0 ax + 3, ay - 4; 1 ax + 2, ay - 11; 2 ax - w / 2, ay - 12; "
                + "3 ax - 2 - w, ay - 11; 4 ax - 3 - w, ay - 4; 5 ax - 2 - w, ay + 2; 6 ax - w / 2, ay + 3; 7 ax + 2, ay + 2.");
        // With w = 12 each of these places is in one of the boxes 0 .. 6 alone.
        int[] inside = {64, 50, 60, 40, 50, 38, 38, 40, 35, 50, 38, 58, 50, 61};
        String[] corner = {"53 46", "52 39", "44 38", "36 39", "35 46", "36 52", "44 53", "52 52"};
        for (int p = 0; p <= 7; p++) {
            DrawLabels desk = new DrawLabels();
            int o = ticksAt(desk, 50, 50, 100);
            for (int q = 0; q < p; q++) {
                dotAt(desk, inside[2 * q], inside[2 * q + 1], 100);
            }
            dueWord("PLACE " + p, desk, o, 2, "W " + corner[p] + " 2 0/");
            due("its number", desk.placed(0), p);
            due("its COST", desk.count(10), p);
        }
    }

    private static void open() {
        CHECK.part("It takes all from left to left + w - 1, from top to top + 8, and is OPEN, if that is all within "
                + "0 .. W - 1, 0 .. H - 1.");
        // One letter, from X = 9, 8, 39, 40: PLACE 4 takes 0 .. 5, -1 .. 4; PLACE 0 takes 42 .. 47, 43 .. 48.
        int[] x = {9, 8, 39, 40};
        String[] alone = {"04", "08", "04", "48"};
        for (int i = 0; i < 4; i++) {
            DrawLabels desk = lowDesk();
            int o = ticksAt(desk, x[i], 8, 16);
            desk.label(o, 1);
            desk.label(o, 1);
            duePlaced("X " + x[i], desk, alone[i]);
        }
        // From Y = 4, 3, 11, 12: PLACE 0 takes 0 .. 8, -1 .. 7, 7 .. 15, 8 .. 16; PLACE 5 of Y = 3 takes 5 .. 13.
        int[] y = {4, 3, 11, 12};
        String[] row = {"0", "5", "0", "1"};
        for (int i = 0; i < 4; i++) {
            DrawLabels desk = lowDesk();
            desk.label(ticksAt(desk, 24, y[i], 16), 1);
            duePlaced("Y " + y[i], desk, row[i]);
        }
    }

    /** What the label of ticks at 24, 8 gets, and its cost, beside a dot or a stroke. */
    private static void dueCost(String name, DrawLabels desk, int place, int cost) {
        desk.label(ticksAt(desk, 24, 8, 16), 1);
        desk.draw();
        due(name, desk.placed(0), place);
        due(name + ": COST", desk.count(10), cost);
    }

    private static void costs() {
        CHECK.part("THE COST of a PLACE: its number; 10 more for each MARK D whose X, Y it takes; 4 more for each MARK S some "
                + "place of which (on the straight way from X1, Y1 to X2, Y2, fractions too) it takes. (MARKS that are LOST do "
                + "not count here.)");
        // PLACE 0 takes 27 .. 32, PLACE 4 takes 15 .. 20, both 4 .. 12.
        dueCost("nothing", lowDesk(), 0, 0);
        int[] dots = {27, 4, 32, 12, 26, 4, 33, 12, 27, 3, 32, 13};
        for (int i = 0; i < 6; i++) {
            DrawLabels desk = lowDesk();
            dotAt(desk, dots[2 * i], dots[2 * i + 1], 16);
            dueCost("a DOT at " + dots[2 * i] + ", " + dots[2 * i + 1], desk, i < 2 ? 4 : 0, i < 2 ? 4 : 0);
        }
        DrawLabels both = lowDesk();
        dotAt(both, 29, 8, 16);
        dotAt(both, 17, 8, 16);
        dueCost("a DOT in both", both, 0, 10);
        DrawLabels two = lowDesk();
        dotAt(two, 29, 8, 16);
        dotAt(two, 30, 8, 16);
        dotAt(two, 17, 8, 16);
        dueCost("two DOTS in one, and one in the other", two, 4, 14);
        DrawLabels stroke = lowDesk();
        pieceAt(stroke, 29, 0, 29, 16, 16);
        dueCost("a STROKE", stroke, 0, 4);
        pieceAt(stroke, 32, 12, 40, 16, 16);
        stroke.draw();
        due("two STROKES", stroke.placed(0), 4);
        fractions();
        lost();
    }

    private static void fractions() {
        DrawLabels through = lowDesk();
        pieceAt(through, 30, 13, 33, 11, 16);
        // At Y = 12 it is at X = 31.5.
        dueCost("between whole places", through, 0, 4);
        DrawLabels past = lowDesk();
        pieceAt(past, 31, 14, 33, 11, 16);
        // At Y = 12 it is at X = 32 1 / 3.
        dueCost("past the BOX", past, 0, 0);
    }

    private static void lost() {
        // X is x / 10, Y is 100 - y / 10: the label of 150, 50 on PLACE 0 takes the DOT at 155, 50.
        DrawLabels desk = Check.deskWith(1490, 500, 1510, 500, 1550, 500);
        desk.window(0, 3000, 0, 1000);
        desk.sheet(300, 100, 0);
        desk.label(desk.object(TICKS, 0, 1, 1), 1);
        desk.object(DOT, 2, 0, 0);
        // Teeth left of X = 12, twelve sides of which meet each multiple below 1000; all as high, their MEASURE would be 0.
        for (int i = 0; i < 12; i++) {
            int high = i == 11 ? 999 : 1000;
            desk.corner(desk.point(10 * i, i % 2 == 0 ? 0 : high));
        }
        desk.area();
        desk.hatch(20);
        duePlaced("a DOT behind 300 STROKES", desk, "1");
        due("none LOST", desk.count(7), 0);
        desk.hatch(10);
        duePlaced("a DOT behind 600 STROKES", desk, "0");
        due("a STROKE, the DOT, the TICKS, the LABEL are LOST", desk.count(7), 4);
    }

    private static void meeting() {
        CHECK.part("Two BOXES MEET, if both take some X, Y. Labels are PLACED, each on an OPEN PLACE or OUT, so that no two "
                + "MEET.");
        // Three letters at X = 10, 11 have PLACE 0 alone: 13 .. 30, 14 .. 31; one letter at X = 40 has PLACE 4 alone: 31 .. 36.
        for (int x = 10; x <= 11; x++) {
            DrawLabels desk = lowDesk();
            desk.label(ticksAt(desk, x, 8, 16), 3);
            desk.label(ticksAt(desk, 40, 8, 16), 1);
            duePlaced("X " + x, desk, x == 10 ? "04" : "08");
        }
    }

    /** Two labels, of which the first one's place 0 takes both places of the second one, and some that have none. */
    private static DrawLabels crowd(int others) {
        DrawLabels desk = lowDesk();
        int middle = ticksAt(desk, 24, 8, 16);
        // 19 .. 30 or 1 .. 12; 29 .. 34 or 17 .. 22.
        desk.label(ticksAt(desk, 16, 8, 16), 2);
        desk.label(ticksAt(desk, 26, 8, 16), 1);
        for (int i = 0; i < others; i++) {
            desk.label(middle, 8);
        }
        return desk;
    }

    private static void best() {
        CHECK.part("Of those whose OBJECT has a MARK: if they are 6 or fewer, THE BEST of all ways: the fewest OUT, of these "
                + "the least sum of COSTS, of these the least row, by numbers of LABELS (8 for OUT; the first one that differs "
                + "counts).");
        DrawLabels six = crowd(4);
        duePlaced("the fewest OUT", six, "408888");
        due("no ROUNDS", six.count(11), 0);
        six.hide(CIRCLE, true);
        int hidden = six.object(CIRCLE, 0, 1, 0);
        six.label(hidden, 1);
        duePlaced("a seventh one whose OBJECT has no MARK", six, "4088888");
        due("no ROUNDS", six.count(11), 0);
        // Two on one object: 0 and 4, of which the second one's 4 has a dot of 10 in it if it is wide.
        DrawLabels sum = lowDesk();
        int o = ticksAt(sum, 24, 8, 16);
        sum.label(o, 1);
        sum.label(o, 2);
        // PLACE 4 takes 15 .. 20 of one letter, and 9 .. 20 of two.
        dotAt(sum, 10, 8, 16);
        duePlaced("the least sum", sum, "40");
        due("4 and 0", sum.count(10), 4);
        DrawLabels row = lowDesk();
        int middle = ticksAt(row, 24, 8, 16);
        row.label(middle, 1);
        row.label(middle, 1);
        duePlaced("the least row", row, "04");
        row.label(middle, 1);
        duePlaced("the least row, 8 for OUT", row, "048");
    }

    private static void rounds() {
        CHECK.part("Else by ROUNDS: at first all are OUT; a ROUND goes through them by number: each takes, as the others are "
                + "then, the OPEN PLACE of least COST (of these the least) on which it MEETS none of them; there is none: OUT. "
                + "It ends behind the ROUND in which none changed, or behind the tenth.");
        DrawLabels seven = crowd(5);
        duePlaced("the first one takes what costs least", seven, "0888888");
        due("one that changed some, one that changed none", seven.count(11), 2);
        DrawLabels none = lowDesk();
        int middle = ticksAt(none, 24, 8, 16);
        for (int l = 0; l < 7; l++) {
            none.label(middle, 8);
        }
        duePlaced("no OPEN PLACE", none, "8888888");
        due("none changed in the first ROUND", none.count(11), 1);
        // A stroke in place 0 makes it cost 4, as place 4 does; two make it cost 8.
        DrawLabels least = lowDesk();
        int o = ticksAt(least, 24, 8, 16);
        pieceAt(least, 29, 0, 29, 16, 16);
        least.label(o, 1);
        for (int l = 1; l < 7; l++) {
            least.label(o, 8);
        }
        duePlaced("of these the least", least, "0888888");
        pieceAt(least, 30, 0, 30, 16, 16);
        duePlaced("the least COST", least, "4888888");
    }

    private static void words() {
        CHECK.part("W left top n l: for each that is PLACED, by numbers l.");
        DrawLabels desk = crowd(1);
        desk.label(0, 1);
        desk.draw();
        // Label 0 on 4, label 1 on 0, label 2 of 8 letters OUT, label 3 at X = 24 on 15 .. 20.
        String all = Check.octets(desk);
        CHECK.dueText("the LABELS", all.substring(all.indexOf("W")), "W 1 4 2 0/W 29 4 1 1/W 15 4 1 3/");
        duePlaced("the PLACES", desk, "4084");
    }

    // ---- 6

    private static void octets() {
        CHECK.part("OCTETS of a DRAWING: each MARK's letter, each number behind a blank (32), with - in front if it is below "
                + "0, then 10.");
        DrawLabels desk = Check.deskWith(-10, 50, 0, 50);
        desk.object(CIRCLE, 0, 1, 0);
        desk.draw();
        int[] want = {'F', 32, '1', '0', '0', 32, '1', '0', '0', 10,
            'C', 32, '-', '1', '0', 32, '5', '0', 32, '1', '0', 32, '1', 32, '0', 10, NONE};
        int d = 17;
        for (int k = 0; k < want.length; k++) {
            due("octet " + k, desk.octet(k), want[k]);
            d = k < want.length - 1 ? 31 * d + want[k] : d;
        }
        due("how many", desk.count(8), want.length - 1);
        due("digest", desk.digest(), d);
    }

    // ---- 7

    private static void groups() {
        CHECK.part("GROUPS 0 .. 5: none at first, or a row of places for OBJECTS of one KIND (0 .. 7), or of all (8); each place "
                + "has an OBJECT or nothing (at first).");
        DrawLabels desk = Check.deskWith(10, 10, 20, 10, 10, 20);
        for (int kind = 0; kind < AREA; kind++) {
            desk.object(kind, 0, 1, 2);
        }
        Check.area(desk, 0, 1, 2);
        for (int g = 0; g <= 5; g++) {
            due("none at first", desk.member(g, 0), 0);
            due("CODE", desk.code(), 1);
        }
        due("GROUP 6", desk.group(6, 0, 1), OUTSIDE);
        due("GROUP -1", desk.group(-1, 0, 1), OUTSIDE);
        due("KIND 9", desk.group(0, 9, 1), OUTSIDE);
        for (int kind = 0; kind <= ALL; kind++) {
            due("a GROUP of KIND " + kind, desk.group(5, kind, 1), 1);
            due("nothing at first", desk.member(5, 0), 0);
            due("CODE", desk.code(), 1);
            for (int o = 0; o <= AREA; o++) {
                boolean fits = kind == ALL || kind == o;
                due("OBJECT of KIND " + o + " in it", desk.put(5, 0, o), fits ? 1 : 0);
                due("CODE", desk.code(), fits ? 0 : 2);
            }
            due("what it has", desk.member(5, 0), kind == ALL ? AREA : kind);
            due("nothing", desk.put(5, 0, NONE), 1);
            due("nothing there", desk.member(5, 0), 0);
            due("CODE", desk.code(), 1);
        }
    }

    private static void codes() {
        CHECK.part("CODES: 0 done; 1 nothing is there; 2 another KIND; 3 no such place; 4 a number of places below 0; 6 divided "
                + "by 0.");
        DrawLabels desk = Check.deskWith(10, 10, 20, 10);
        desk.object(PIECE, 0, 1, 0);
        desk.object(CIRCLE, 0, 1, 0);
        due("at first", desk.code(), 0);
        dueCode("no GROUP", desk, desk.paint(0, 1), 1);
        dueCode("below 0", desk, desk.group(0, PIECE, -1), 4);
        due("a GROUP", desk.group(0, PIECE, 2), 2);
        due("done", desk.code(), 0);
        dueCode("another KIND", desk, desk.put(0, 0, 1), 2);
        dueCode("no such place", desk, desk.put(0, 2, 0), 3);
        dueCode("no CIRCLE", desk, (int) desk.reach(0), 2);
        due("a CIRCLE", desk.reach(1), 100);
        due("done", desk.code(), 0);
        desk.window(5, 5, 0, 1);
        dueCode("divided by 0", desk, desk.scale(true), 6);

        CHECK.part("A call with a CODE above 0 answers 0 and changes nothing, but where that is told.");
        desk.put(0, 0, 0);
        dueCode("below 0", desk, desk.group(0, CIRCLE, -7), 4);
        due("the GROUP stayed", desk.member(0, 0), 0);
        due("done", desk.code(), 0);
        dueCode("another KIND", desk, desk.put(0, 0, 1), 2);
        due("the OBJECT stayed", desk.put(0, 1, desk.member(0, 0)), 1);
        desk.put(0, 1, NONE);
        dueCode("a place with nothing", desk, desk.paint(0, 2), 1);
        due("told: the one ahead has it", desk.style(0, 0), 2);
        dueCode("no SCALE", desk, desk.draw(), 6);
        due("told: MARK F alone", desk.count(6), 1);
    }

    /** What a call with a code above 0 answered, and that code. */
    private static void dueCode(String name, DrawLabels desk, int got, int code) {
        due(name, got, 0);
        due(name + ": CODE", desk.code(), code);
    }
}
