/** All that can be full is full at once: the last of each still answers as it should. */
public final class FullTest {
    private static final Checks IT = new Checks("full");

    public static void main(String[] args) {
        lastBodies();
        manyClaims();
        IT.end();
    }

    private static void lastBodies() {
        AcresPaid x = new AcresPaid();
        x.farm(1, 0);
        for (int i = 1; i < 147; i++) {
            x.farm(1, 3);
        }
        Checks.field(x, 0, 0, 0, 10, 1);
        x.permit(9);
        x.farm(7, 3);
        IT.due("8: full", -3, Checks.field(x, 149, 0, 0, 1, 1));
        x.handOver(147, 149, 0);
        x.handOver(148, 149, 3285);
        for (int i = 0; i < 9; i++) {
            x.days(365);
        }
        IT.due("15: the last farm claims", 1, x.claim(149, 147, 7));
        IT.due("20: in the last year", 1, x.majeure(149, 9));
        IT.due("20: not in the year ahead", 0, x.named(149, 8, 3649, 11));
        IT.due("28: p of the last day", 1, x.named(149, 9, 3285, 9));
        IT.due("29: paid", 130, x.paid(149, 9, 3285, 0));
        IT.due("30: settled", 130, x.settle(149, 9));
        IT.due("32: cut", 5, x.budget(149, 9, 5));
        IT.due("32: nothing is due", 0, x.budget(0, 9, 5));
        IT.due("36: drawn", 1, x.draw(3, 9, 9));
        IT.due("37: the last farm", 149, x.drawn(0));
        IT.due("19: controlled", 1, x.control(149, 147, 9, 1));
        IT.due("38: counted", 1, x.rate(9, 1, 0));
        IT.due("21: a colour", 0, x.colour(7, 5, 50));
        Checks.bytes(x, 5, 1, 1, 1, 1, 1, 50);
        IT.due("22: seen", 6, x.see(147, 9, 5, 0));
        IT.due("24: looks", 7, x.looks(147, 9, 0));
        Checks.text(x, 0, 9, "k*10");
        IT.due("43: one gets more", 1, x.tried(0, 3, 9, 0));
        IT.due("44: heir 149 with land 3", 20 - 149 + 3 ^ 3, x.act(149, 0, 10));
        IT.due("31: nothing owed", 0, x.back(149));
    }

    private static void manyClaims() {
        AcresPaid x = new AcresPaid();
        for (int i = 0; i < 20; i++) {
            x.farm(1, 0);
        }
        for (int i = 0; i < 10; i++) {
            Checks.field(x, 0, 0, i, 24, i + 1);
        }
        for (int farm = 0; farm < 20; farm++) {
            for (int i = 0; i < 10; i++) {
                if (farm > 0) {
                    x.handOver(20 + i, farm, 0);
                }
                x.claim(farm, 20 + i, i % 8);
            }
        }
        IT.due("15: claims", 200, x.count(4));
        IT.due("13: handovers", 190, x.count(5));
        IT.due("33: all ten fields", 240, x.least(0));
        IT.due("34: the last of them", 29, x.given(9));
        IT.due("18: all in fault", 24, x.counted(19, 29, 0, 0, 3));
        x.giveUp(20);
        IT.due("33: nine are left", 216, x.least(0));
        IT.due("28: nothing counts", 0, x.named(7, 0, 0, 2));
        IT.due("36: twenty with claims", 9, x.draw(0, 0, 9));
    }
}
