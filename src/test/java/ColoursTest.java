/** Promises 21 to 24: colours, what is seen, the blank, what it looks like. */
public final class ColoursTest {
    private static final Checks IT = new Checks("colours");

    public static void main(String[] args) {
        promise21();
        promise22();
        promise23();
        promise24();
        IT.end();
    }

    private static void promise21() {
        AcresPaid x = new AcresPaid();
        IT.due("21: crop 8", -1, x.colour(8, 0, 0));
        IT.due("21: crop -1", -1, x.colour(-1, 0, 0));
        IT.due("21: week 6", -1, x.colour(0, 6, 0));
        IT.due("21: week -1", -1, x.colour(0, -1, 0));
        IT.due("21: 100", -1, x.colour(0, 0, 100));
        IT.due("21: -1", -1, x.colour(0, 0, -1));
        IT.due("21: at first", 0, x.colour(7, 5, 99));
        IT.due("21: as told", 99, x.colour(7, 5, 0));
        IT.due("21: another week", 0, x.colour(7, 4, 0));
        IT.due("21: another crop", 0, x.colour(6, 5, 0));
    }

    private static AcresPaid withField() {
        AcresPaid x = new AcresPaid();
        x.farm(1, 0);
        Checks.field(x, 0, 0, 0, 1, 1);
        return x;
    }

    private static void promise22() {
        AcresPaid x = withField();
        IT.due("22: no field", -1, x.see(0, 0, 0, 0));
        IT.due("22: year 10", -1, x.see(1, 10, 0, 0));
        IT.due("22: year -1", -1, x.see(1, -1, 0, 0));
        IT.due("22: shelf 6", -1, x.see(1, 0, 6, 0));
        IT.due("22: shelf -1", -1, x.see(1, 0, -1, 0));
        IT.due("22: a shelf that holds nothing", 0, x.see(1, 0, 0, 0));
        x.keep(0, 0);
        IT.due("22: a body", -12, x.see(1, 0, 0, 0));
        for (int sort = 1; sort < 5; sort++) {
            x.row(0, sort, 6);
            IT.due("22: a row of sort " + sort, -12, x.see(1, 0, 0, 0));
        }
        Checks.bytes(x, 0, 1, 2, 3, 4, 5, 6, 7, 8);
        IT.due("22: all weeks", 6, x.see(1, 0, 0, 0));
        IT.due("22: from 2 on", 6, x.see(1, 0, 0, 2));
        IT.due("22: from 3 on", 5, x.see(1, 0, 0, 3));
        IT.due("22: from the last on", 1, x.see(1, 0, 0, 7));
        IT.due("22: from behind the end on", 0, x.see(1, 0, 0, 8));
        IT.due("22: far behind", 0, x.see(1, 0, 0, Integer.MAX_VALUE));
        IT.due("22: in place of what was seen", -2, x.looks(1, 0, 0));
        Checks.bytes(x, 0, -1, 2, -1, 4);
        IT.due("22: two blanks, then the end", 2, x.see(1, 0, 0, 0));
        x.row(0, 1, 6);
        IT.due("22: refused", -12, x.see(1, 0, 0, 0));
        IT.due("22: a refused call changes nothing", 0, x.looks(1, 0, 0));
    }

    private static void promise23() {
        AcresPaid x = withField();
        Checks.bytes(x, 0, 0, 0, 7, 7, -1, 200);
        IT.due("23: at first", -1, x.blank(7));
        IT.due("23: the new one", 4, x.see(1, 0, 0, 0));
        IT.due("23: as told", 7, x.blank(200));
        IT.due("23: 200 is no byte", 6, x.see(1, 0, 0, 0));
        IT.due("23: as told", 200, x.blank(-56));
        IT.due("23: 200 became -56", 5, x.see(1, 0, 0, 0));
        IT.due("23: any number", -56, x.blank(Integer.MIN_VALUE));
        IT.due("23: any number", Integer.MIN_VALUE, x.blank(0));
    }

    private static void promise24() {
        AcresPaid x = withField();
        IT.due("24: no field", -1, x.looks(0, 0, 0));
        IT.due("24: year 10", -1, x.looks(1, 10, 0));
        IT.due("24: what 2", -1, x.looks(1, 0, 2));
        IT.due("24: what -1", -1, x.looks(1, 0, -1));
        IT.due("24: nothing seen", -2, x.looks(1, 0, 0));
        Checks.bytes(x, 0, 10, -1, -20);
        x.see(1, 3, 0, 0);
        IT.due("24: of several the least", 0, x.looks(1, 3, 0));
        IT.due("24: no doubt between likes", 0, x.looks(1, 3, 1));
        x.colour(4, 0, 11);
        IT.due("24: 30 and 21 apart", 4, x.looks(1, 3, 0));
        IT.due("24: by 9", 9, x.looks(1, 3, 1));
        x.colour(2, 0, 9);
        IT.due("24: two that are 21 apart", 2, x.looks(1, 3, 0));
        IT.due("24: no doubt", 0, x.looks(1, 3, 1));
        x.colour(2, 1, 99);
        IT.due("24: a week that is not seen counts nothing", 2, x.looks(1, 3, 0));
        x.colour(2, 3, 99);
        IT.due("24: nor one behind the end", 2, x.looks(1, 3, 0));
        x.colour(2, 2, 1);
        IT.due("24: a week that is seen counts", 4, x.looks(1, 3, 0));
        IT.due("24: by 1", 1, x.looks(1, 3, 1));
        IT.due("24: another year", -2, x.looks(1, 2, 0));
        Checks.bytes(x, 0, -1, -1);
        x.see(1, 3, 0, 0);
        IT.due("24: only blanks", -2, x.looks(1, 3, 1));
    }
}
