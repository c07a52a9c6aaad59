import java.util.ArrayList;
import java.util.List;

/** A country with something of everything told, and a run of calls that tells all that can be seen of it. */
final class Scene {
    static final int BODIES = 14;
    static final int FIELD = 5, OVERLAPS = 6, MEADOW = 7, ALONE = 8, GIVEN_UP = 10, PERMIT = 11;

    private Scene() {
    }

    /** On day 400: some 140 calls. */
    static AcresPaid told() {
        AcresPaid x = new AcresPaid();
        x.body();
        x.farm(1, 0);
        x.farm(2, 0);
        x.farm(3, 1);
        x.farm(7, 1);
        Checks.field(x, 1, 0, 0, 6, 4);
        Checks.field(x, 2, 4, 0, 10, 3);
        Checks.meadow(x, 1, 0, 4, 3, 8);
        Checks.field(x, 3, 12, 12, 16, 16);
        Checks.field(x, 4, 18, 18, 22, 20);
        Checks.field(x, 4, 20, 0, 22, 2);
        Checks.permit(x, 50, 1, 0);
        Checks.permit(x, 70, 1, 0);
        Checks.permit(x, 5, 3, 0);
        claim(x);
        x.claim(4, GIVEN_UP, 6);
        x.days(140);
        x.out(0, 0, 0);
        x.control(1, FIELD, 0, 2);
        x.control(3, ALONE, 0, 4);
        x.majeure(3, 0);
        x.close(1, 100);
        feed(x, "s/2+1");
        x.text(0, 0);
        feed(x, "e>9?7");
        x.text(3, 0);
        x.settle(1, 0);
        x.days(260);
        x.giveUp(GIVEN_UP);
        claim(x);
        colours(x);
        picks(x);
        x.row(1, 2, 3);
        x.put(1, 2, 77);
        x.keep(2, MEADOW);
        x.act(4, 1, 5);
        feed(x, "1+");
        Checks.ring(x, 1, 1, 4, 1, 4, 4);
        return x;
    }

    private static void claim(AcresPaid x) {
        x.claim(1, FIELD, 1);
        x.claim(1, MEADOW, 0);
        x.claim(2, OVERLAPS, 2);
        x.claim(3, ALONE, 3);
        x.claim(4, 9, 4);
    }

    private static void colours(AcresPaid x) {
        x.colour(2, 0, 9);
        x.colour(5, 3, 40);
        x.blank(-3);
        x.row(0, 0, 4);
        x.put(0, 0, 9);
        x.put(0, 3, 44);
        x.see(FIELD, 0, 0, 0);
        x.see(ALONE, 1, 0, 3);
    }

    private static void picks(AcresPaid x) {
        x.lots(77);
        x.least(0);
        x.draw(1, 1, 2);
        x.worth(3, 8);
        x.worth(6, 8);
        x.plot(10);
        x.plot(7);
        x.mix(80, 2);
        x.plot(5);
        x.plot(6);
    }

    static void feed(AcresPaid x, String text) {
        for (int i = 0; i < text.length(); i++) {
            x.feed(1, text.charAt(i));
        }
    }

    /** All answers that tell of the state, first those that leave it as it is; some 320 calls. */
    static List<Long> seen(AcresPaid x) {
        List<Long> s = new ArrayList<>();
        for (int i = 0; i <= 11; i++) add(s, x.count(i));
        bodies(x, s);
        years(x, s);
        for (int i = 0; i < 3; i++) add(s, x.given(i), x.drawn(i), x.mixed(i), x.rate(0, i, 1020));
        for (int i = 0; i < 9; i++) add(s, x.trace(i));
        for (int i = 0; i < 4; i++) add(s, x.element(0, i), x.element(1, i));
        for (int i = 0; i < 6; i++) add(s, x.taken(i, 0));
        for (int what = 0; what < 2; what++) add(s, x.looks(FIELD, 0, what), x.looks(ALONE, 1, what));
        ends(x, s);
        return s;
    }

    private static void add(List<Long> s, long... answers) {
        for (long a : answers) s.add(a);
    }

    private static void bodies(AcresPaid x, List<Long> s) {
        for (int b = 0; b <= BODIES; b++) {
            for (int what = 0; what <= 4; what += b < FIELD ? 2 : 1) add(s, x.ofBody(b, what));
        }
        for (int b = FIELD; b < BODIES; b++) add(s, x.holder(b, 3649, 3649));
        add(s, x.has(FIELD, 5, 3), x.has(ALONE, 13, 13));
    }

    private static void years(AcresPaid x, List<Long> s) {
        int[] farms = {1, 1, 2, 3, 4, 4}, fields = {FIELD, MEADOW, OVERLAPS, ALONE, 9, GIVEN_UP};
        for (int i = 0; i < 6; i++) {
            for (int what = 1; what < 5; what++) add(s, x.counted(farms[i], fields[i], i % 2, 3649, what));
            add(s, x.counted(farms[i], fields[i], 1 - i % 2, 3649, 1));
        }
        for (int use = 0; use < 4; use++) add(s, x.inForce(use, 9, 3649), x.inForce(10 + use, 9, 3649));
        for (int name = 0; name < 13; name++) add(s, x.named(1, 0, 3649, name), x.named(3, 1, 3649, name));
        for (int farm = 1; farm <= 4; farm++) {
            for (int year = 0; year < 2; year++) add(s, x.paid(farm, year, 3649, 0));
            add(s, x.back(farm));
        }
        for (int what = 1; what <= 6; what++) add(s, x.paid(1, 0, 3649, what), x.paid(3, 0, 3649, what));
    }

    /** What can only be seen by a call that changes something. */
    private static void ends(AcresPaid x, List<Long> s) {
        add(s, x.corner(1, 4), x.area(), x.uncorner());
        add(s, x.feed(1, '9'), x.text(1, 0), x.paid(1, 0, 3649, 2));
        for (int land = 0; land < 4; land++) add(s, x.close(land, 0));
        for (int week = 0; week < 6; week++) add(s, x.colour(2, week, 1), x.colour(5, week, 1));
        add(s, x.blank(0));
        for (int crop = 0; crop < 8; crop++) add(s, x.worth(crop, crop + 1));
        add(s, x.mix(100, 1), x.mixed(0), x.mixed(1), x.mixed(2));
        add(s, x.farm(1, 0), x.farm(1, 0), x.farm(1, 0));
        int first = x.count(0) - 3;
        for (int i = 0; i < 3; i++) x.claim(first + i, Checks.field(x, first + i, 23, 20 + i, 24, 21 + i), 0);
        add(s, x.draw(0, 1, 4));
        for (int i = 0; i < 4; i++) add(s, x.drawn(i));
        add(s, x.majeure(1, 0), x.majeure(3, 0), x.days(1), x.body());
    }
}
