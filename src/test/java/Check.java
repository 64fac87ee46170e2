/** Counts answers, prints the wrong ones, and ends with exit code 1 if there was one. */
final class Check {
    private final String name;
    private int checked;
    private int wrong;
    private String part = "";

    Check(String name) {
        this.name = name;
    }

    /** Names what the answers from here on are about. */
    void part(String newPart) {
        part = newPart;
    }

    void due(String call, long got, long want) {
        note(got == want, call, Long.toString(got), Long.toString(want));
    }

    void dueFloat(String call, float got, float want) {
        note(Float.floatToIntBits(got) == Float.floatToIntBits(want), call, Float.toString(got), Float.toString(want));
    }

    void dueText(String call, String got, String want) {
        note(got.equals(want), call, got, want);
    }

    private void note(boolean right, String call, String got, String want) {
        checked++;
        if (!right) {
            wrong++;
            System.out.println(part + ": " + call + " answered " + got + ", due is " + want);
        }
    }

    void end() {
        System.out.println(name + ": " + checked + " answers, " + wrong + " wrong");
        if (wrong > 0 || checked == 0) {
            System.exit(1);
        }
    }

    /** The drawing's octets as a text, with / for the end of a mark. */
    static String octets(DrawLabels desk) {
        StringBuilder all = new StringBuilder();
        int octets = desk.count(8);
        for (int k = 0; k < octets; k++) {
            int octet = desk.octet(k);
            all.append(octet == 10 ? '/' : (char) octet);
        }
        return all.toString();
    }

    /** Draws, and tells the octets behind those of the mark F. */
    static String drawn(DrawLabels desk) {
        desk.draw();
        String all = octets(desk);
        return all.substring(all.indexOf('/') + 1);
    }

    /** A desk with points at the places x, y, x, y, .. */
    static DrawLabels deskWith(int... places) {
        DrawLabels desk = new DrawLabels();
        for (int i = 0; i + 1 < places.length; i += 2) {
            desk.point(places[i], places[i + 1]);
        }
        return desk;
    }

    /** Makes an area of points. */
    static int area(DrawLabels desk, int... corners) {
        for (int p : corners) {
            desk.corner(p);
        }
        return desk.area();
    }
}
