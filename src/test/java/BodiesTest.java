/** Promises 1 to 14: days, bodies, rings, fields, handovers. */
public final class BodiesTest {
    private static final int MIN = Integer.MIN_VALUE, MAX = Integer.MAX_VALUE;
    private static final Checks IT = new Checks("bodies");

    public static void main(String[] args) {
        promise1();
        promise2();
        promise3();
        promise4();
        promise5();
        promise6();
        promise7();
        soundRings();
        promise8();
        promise9();
        promise10();
        promise11();
        promise12();
        promise13();
        promise14();
        IT.end();
    }

    private static void promise1() {
        AcresPaid x = new AcresPaid();
        for (int what = 0; what <= 11; what++) {
            IT.due("1: count(" + what + ") of a new object", 0, x.count(what));
        }
        IT.due("1: no text", -2, x.inForce(0, 9, 0));
        IT.due("1: no body", -2000000000, x.ofBody(0, 0));
        IT.due("1: close at first", 135, x.close(0, 1));
        IT.due("1: colour at first", 0, x.colour(7, 5, 1));
        IT.due("1: blank at first", -1, x.blank(0));
        IT.due("1: shelf at first", -11, x.taken(5, 0));
        IT.due("1: nothing given", -1, x.given(0));
        IT.due("1: nothing drawn", -1, x.drawn(0));
        IT.due("1: nothing mixed", -1, x.mixed(0));
        IT.due("1: no trace", -1, x.trace(0));
    }

    private static void promise2() {
        AcresPaid x = new AcresPaid();
        IT.due("2: days(0)", -1, x.days(0));
        IT.due("2: days(-1)", -1, x.days(-1));
        IT.due("2: days(366)", -1, x.days(366));
        IT.due("2: days(MAX)", -1, x.days(MAX));
        IT.due("2: days(MIN)", -1, x.days(MIN));
        IT.due("2: days(1)", 1, x.days(1));
        IT.due("2: days(365)", 366, x.days(365));
        for (int i = 0; i < 8; i++) {
            x.days(365);
        }
        IT.due("2: day 3286", 3286, x.count(7));
        IT.due("2: beyond 3649", -1, x.days(364));
        IT.due("2: a refused call changes nothing", 3286, x.count(7));
        IT.due("2: to 3649", 3649, x.days(363));
        IT.due("2: past 3649", -1, x.days(1));
    }

    private static void promise3() {
        AcresPaid x = new AcresPaid();
        for (int i = 0; i < 150; i++) {
            IT.due("3: body", i, x.body());
        }
        IT.due("3: body when full", -3, x.body());
        IT.due("3: 150 bodies", 150, x.count(0));
        IT.due("4: farm when full", -3, x.farm(1, 0));
        IT.due("4: no such kind is named ahead of full", -1, x.farm(0, 0));
        IT.due("9: permit when full", -3, x.permit(1));
        IT.due("9: no such value is named ahead of full", -1, x.permit(0));
    }

    private static void promise4() {
        AcresPaid x = new AcresPaid();
        int[] bad = {0, 4, 5, 6, 8, -1, MIN, MAX};
        for (int kind : bad) {
            IT.due("4: farm of kind " + kind, -1, x.farm(kind, 0));
        }
        IT.due("4: land -1", -1, x.farm(1, -1));
        IT.due("4: land 4", -1, x.farm(1, 4));
        IT.due("4: farm", 0, x.farm(1, 0));
        IT.due("4: young", 1, x.farm(2, 1));
        IT.due("4: small", 2, x.farm(3, 2));
        IT.due("4: heir", 3, x.farm(7, 3));
        IT.due("4: kind of heir", 7, x.ofBody(3, 0));
        IT.due("4: four farms", 4, x.count(1));
    }

    private static void promise5() {
        AcresPaid x = new AcresPaid();
        IT.due("5: x -1", -1, x.corner(-1, 0));
        IT.due("5: y -1", -1, x.corner(0, -1));
        IT.due("5: x 25", -1, x.corner(25, 0));
        IT.due("5: y 25", -1, x.corner(0, 25));
        for (int i = 1; i <= 12; i++) {
            IT.due("5: corner", i, x.corner(24, 24));
        }
        IT.due("5: thirteenth", -3, x.corner(0, 0));
        IT.due("5: bad ahead of full", -1, x.corner(25, 0));
        IT.due("5: twelve stay", 12, x.count(10));
    }

    private static void promise6() {
        AcresPaid x = new AcresPaid();
        IT.due("6: none", 0, x.uncorner());
        Checks.ring(x, 1, 1, 2, 1, 2, 2);
        IT.due("6: three", 3, x.uncorner());
        IT.due("6: none then", 0, x.uncorner());
        IT.due("6: the next is the first", 1, x.corner(0, 0));
    }

    private static void areaOf(String what, int want, int... corners) {
        AcresPaid x = new AcresPaid();
        Checks.ring(x, corners);
        IT.due("7: " + what, want, x.area());
        IT.due("7: the ring stays", corners.length / 2, x.count(10));
    }

    private static void promise7() {
        areaOf("no corners", -2);
        areaOf("two corners", -2, 0, 0, 4, 0);
        areaOf("three corners", -2, 0, 0, 4, 0, 4, 4);
        areaOf("a square", 1, 5, 5, 6, 5, 6, 6, 5, 6);
        areaOf("the other way round", 6, 3, 0, 0, 0, 0, 2, 3, 2);
        areaOf("all of the grid", 576, 0, 0, 24, 0, 24, 24, 0, 24);
        areaOf("first up", -2, 0, 0, 0, 3, 3, 3, 3, 0);
        areaOf("five corners", -2, 0, 0, 3, 0, 3, 3, 0, 3, 0, 1);
        areaOf("askew", -2, 0, 0, 3, 1, 3, 3, 0, 3);
        areaOf("a side of length 0", -2, 0, 0, 0, 0, 0, 3, 0, 3);
        areaOf("two sides on one line", -2, 0, 0, 3, 0, 3, 0, 0, 0);
        areaOf("an L", 5, 0, 0, 3, 0, 3, 1, 1, 1, 1, 3, 0, 3);
    }

    private static void soundRings() {
        areaOf("crossed", -2, 0, 0, 4, 0, 4, 4, 1, 4, 1, 2, 6, 2, 6, 6, 0, 6);
        areaOf("touches a side with a corner", -2, 0, 0, 6, 0, 6, 4, 4, 4, 4, 0, 2, 0, 2, 4, 0, 4);
        areaOf("a side twice", -2, 0, 0, 4, 0, 4, 2, 2, 2, 2, 0, 1, 0, 1, 3, 0, 3);
        areaOf("corner on corner", -2, 0, 0, 2, 0, 2, 2, 4, 2, 4, 4, 2, 4, 2, 2, 0, 2);
        areaOf("goes straight on", -2, 0, 0, 2, 0, 4, 0, 4, 2, 4, 4, 0, 4);
        areaOf("a U", 20, 0, 0, 6, 0, 6, 4, 4, 4, 4, 2, 2, 2, 2, 4, 0, 4);
        areaOf("a cross", 5, 1, 0, 2, 0, 2, 1, 3, 1, 3, 2, 2, 2, 2, 3, 1, 3, 1, 2, 0, 2, 0, 1, 1, 1);
    }

    private static void promise8() {
        AcresPaid x = new AcresPaid();
        x.body();
        x.farm(1, 0);
        Checks.box(x, 0, 0, 3, 2);
        IT.due("8: of a body", -1, x.field(0, 0));
        IT.due("8: of none", -1, x.field(2, 0));
        IT.due("8: of -1", -1, x.field(-1, 0));
        IT.due("8: meadow 2", -1, x.field(1, 2));
        IT.due("8: meadow -1", -1, x.field(1, -1));
        IT.due("8: the ring stays", 4, x.count(10));
        IT.due("8: field", 2, x.field(1, 0));
        IT.due("8: kind", 4, x.ofBody(2, 0));
        IT.due("8: the ring is none", 0, x.count(10));
        IT.due("8: no ring", -2, x.field(1, 0));
        x.corner(1, 1);
        IT.due("8: bad ahead of not", -1, x.field(0, 0));
        IT.due("8: not sound", -2, x.field(1, 0));
        IT.due("8: it stays", 1, x.uncorner());
        Checks.box(x, 0, 0, 1, 1);
        IT.due("8: meadow", 3, x.field(1, 1));
        IT.due("8: its kind", 5, x.ofBody(3, 0));
        IT.due("8: two fields", 2, x.count(2));
        for (int i = 4; i < 150; i++) {
            x.body();
        }
        IT.due("8: not ahead of full", -2, x.field(1, 0));
        Checks.box(x, 0, 0, 1, 1);
        IT.due("8: full", -3, x.field(1, 0));
        IT.due("8: the ring stays when full", 4, x.count(10));
    }

    private static void promise9() {
        AcresPaid x = new AcresPaid();
        IT.due("9: 0", -1, x.permit(0));
        IT.due("9: 1000", -1, x.permit(1000));
        IT.due("9: -5", -1, x.permit(-5));
        IT.due("9: 1", 0, x.permit(1));
        IT.due("9: 999", 1, x.permit(999));
        IT.due("9: two", 2, x.count(3));
    }

    private static void promise10() {
        AcresPaid x = new AcresPaid();
        x.days(7);
        x.body();
        x.farm(2, 3);
        Checks.field(x, 1, 0, 0, 4, 5);
        x.permit(77);
        x.days(4);
        int[][] want = {{0, VOID, VOID, VOID, VOID}, {2, 3, VOID, VOID, VOID}, {4, 20, 7, -1, 1}, {6, 77, VOID, VOID, -1}};
        for (int body = 0; body < 4; body++) {
            for (int what = 0; what < 5; what++) {
                IT.due("10: ofBody(" + body + ", " + what + ")", want[body][what], x.ofBody(body, what));
            }
            IT.due("10: what 5", VOID, x.ofBody(body, 5));
            IT.due("10: what -1", VOID, x.ofBody(body, -1));
        }
        IT.due("10: no body", VOID, x.ofBody(4, 0));
        IT.due("10: body -1", VOID, x.ofBody(-1, 0));
        x.giveUp(2);
        IT.due("10: given up", 11, x.ofBody(2, 3));
        x.farm(1, 0);
        x.handOver(2, 4, 11);
        x.handOver(3, 4, 12);
        IT.due("10: holder today", 4, x.ofBody(2, 4));
        IT.due("10: not yet", -1, x.ofBody(3, 4));
        x.days(1);
        IT.due("10: now", 4, x.ofBody(3, 4));
    }

    private static final int VOID = -2000000000;

    /** A U: open between x 2 and 4 from y 2 on. */
    private static AcresPaid withU() {
        AcresPaid x = new AcresPaid();
        x.farm(1, 0);
        Checks.ring(x, 0, 0, 6, 0, 6, 4, 4, 4, 4, 2, 2, 2, 2, 4, 0, 4);
        x.field(0, 0);
        return x;
    }

    private static void promise11() {
        int inside = 0;
        for (int j = 0; j < 24; j++) {
            AcresPaid x = withU();
            for (int i = 0; i < 24; i++) {
                boolean in = i < 6 && j < 4 && !(i >= 2 && i < 4 && j >= 2);
                int has = x.has(1, i, j);
                IT.due("11: has " + i + ", " + j, in ? 1 : 0, has);
                inside += has;
            }
        }
        AcresPaid x = withU();
        IT.due("11: as many as its area", x.ofBody(1, 1), inside);
        IT.due("11: no field", -1, x.has(0, 0, 0));
        IT.due("11: x 24", -1, x.has(1, 24, 0));
        IT.due("11: y 24", -1, x.has(1, 0, 24));
        IT.due("11: x -1", -1, x.has(1, -1, 0));
        IT.due("11: y MIN", -1, x.has(1, 0, MIN));
        int all = Checks.field(x, 0, 0, 0, 24, 24);
        IT.due("11: the last square", 1, x.has(all, 23, 23));
    }

    private static void promise12() {
        AcresPaid x = new AcresPaid();
        x.farm(1, 0);
        Checks.field(x, 0, 0, 0, 1, 1);
        x.permit(5);
        IT.due("12: a farm", -1, x.giveUp(0));
        IT.due("12: a permit", -1, x.giveUp(2));
        IT.due("12: none", -1, x.giveUp(3));
        IT.due("12: -1", -1, x.giveUp(-1));
        IT.due("12: given up on day 0", 1, x.giveUp(1));
        x.days(3);
        IT.due("12: it was", -2, x.giveUp(1));
        IT.due("12: the day stays", 0, x.ofBody(1, 3));
    }

    private static void promise13() {
        AcresPaid x = new AcresPaid();
        x.farm(1, 0);
        Checks.field(x, 0, 0, 0, 1, 1);
        Checks.meadow(x, 0, 0, 0, 1, 1);
        x.permit(5);
        x.body();
        IT.due("13: of a farm", -1, x.handOver(0, 0, 0));
        IT.due("13: of a body", -1, x.handOver(4, 0, 0));
        IT.due("13: to a field", -1, x.handOver(1, 1, 0));
        IT.due("13: to none", -1, x.handOver(1, 5, 0));
        IT.due("13: day -1", -1, x.handOver(1, 0, -1));
        IT.due("13: day 3650", -1, x.handOver(1, 0, 3650));
        IT.due("13: field", 1, x.handOver(1, 0, 3649));
        IT.due("13: meadow", 2, x.handOver(2, 0, 0));
        for (int i = 3; i <= 200; i++) {
            IT.due("13: permit", i, x.handOver(3, 0, i));
        }
        IT.due("13: full", -3, x.handOver(3, 0, 0));
        IT.due("13: bad ahead of full", -1, x.handOver(0, 0, 0));
        IT.due("13: 200", 200, x.count(5));
    }

    private static void promise14() {
        AcresPaid x = new AcresPaid();
        x.farm(1, 0);
        x.farm(1, 0);
        x.farm(1, 0);
        int field = Checks.field(x, 0, 0, 0, 1, 1);
        int permit = x.permit(5);
        IT.due("14: a field's first", 0, x.holder(field, 3649, 0));
        IT.due("14: a permit's none", -2, x.holder(permit, 3649, 3649));
        x.days(10);
        x.handOver(field, 1, 5);
        x.handOver(field, 2, 4);
        IT.due("14: the latest day, not the last told", 1, x.holder(field, 5, 10));
        IT.due("14: the day ahead", 2, x.holder(field, 4, 10));
        IT.due("14: ahead of both", 0, x.holder(field, 3, 10));
        IT.due("14: not known the day ahead", 0, x.holder(field, 9, 9));
        x.handOver(field, 0, 5);
        IT.due("14: of like days the one told last", 0, x.holder(field, 5, 10));
        x.days(1);
        x.handOver(permit, 2, 0);
        IT.due("14: a permit", 2, x.holder(permit, 0, 11));
        IT.due("14: as known a day ahead", -2, x.holder(permit, 0, 10));
        IT.due("14: of a farm", -1, x.holder(0, 0, 0));
        IT.due("14: of none", -1, x.holder(9, 0, 0));
        IT.due("14: day -1", -1, x.holder(field, -1, 0));
        IT.due("14: day 3650", -1, x.holder(field, 3650, 0));
        IT.due("14: k -1", -1, x.holder(field, 0, -1));
        IT.due("14: k 3650", -1, x.holder(field, 0, 3650));
    }
}
