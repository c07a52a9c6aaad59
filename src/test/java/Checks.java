/** What the tests share: answers that are due, rings and tapes told in one go. */
final class Checks {
    private final String name;
    private int asked;
    private int wrong;

    Checks(String name) {
        this.name = name;
    }

    void due(String what, long want, long got) {
        asked++;
        if (want != got) {
            wrong++;
            System.out.println(name + ": " + what + " answered " + got + ", due is " + want);
        }
    }

    void end() {
        System.out.println(name + ": " + asked + " answers, " + wrong + " wrong");
        if (wrong > 0 || asked == 0) {
            System.exit(1);
        }
    }

    /** Corners: x, y, x, y .. */
    static void ring(AcresPaid x, int... corners) {
        for (int i = 0; i + 1 < corners.length; i += 2) {
            x.corner(corners[i], corners[i + 1]);
        }
    }

    static void box(AcresPaid x, int x0, int y0, int x1, int y1) {
        ring(x, x0, y0, x1, y0, x1, y1, x0, y1);
    }

    static int field(AcresPaid x, int farm, int x0, int y0, int x1, int y1) {
        box(x, x0, y0, x1, y1);
        return x.field(farm, 0);
    }

    static int meadow(AcresPaid x, int farm, int x0, int y0, int x1, int y1) {
        box(x, x0, y0, x1, y1);
        return x.field(farm, 1);
    }

    static void tape(AcresPaid x, String text) {
        for (int i = 0; i < text.length(); i++) {
            x.feed(1, text.charAt(i));
        }
    }

    static int text(AcresPaid x, int what, int year, String text) {
        tape(x, text);
        return x.text(what, year);
    }

    static int permit(AcresPaid x, int value, int farm, int from) {
        int permit = x.permit(value);
        x.handOver(permit, farm, from);
        return permit;
    }

    static void bytes(AcresPaid x, int shelf, int... values) {
        x.row(shelf, 0, values.length);
        for (int i = 0; i < values.length; i++) {
            x.put(shelf, i, values[i]);
        }
    }

    /** Days up to the first of a year. */
    static void toDay(AcresPaid x, int day) {
        while (x.count(7) < day) {
            x.days(Math.min(365, day - x.count(7)));
        }
    }
}
