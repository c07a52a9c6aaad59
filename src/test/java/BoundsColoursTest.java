/** Promises 21 to 24, and Terms 3: each sentence that names a bound, by a test of its own. */
public final class BoundsColoursTest {
    private static final int MIN = Integer.MIN_VALUE, MAX = Integer.MAX_VALUE, BAD = -1, NOT = -2, OTHER_KIND = -12;
    private static final Checks IT = new Checks("bounds of colours");

    public static void main(String[] args) {
        coloursTold();
        coloursKept();
        seeArguments();
        onlyRowsOfBytes();
        sixNumbersFromAPlace();
        endsWhereTheRowIsMissing();
        theBlank();
        blankOfAnyNumber();
        inPlaceOfWhatWasSeen();
        eachFieldAndYear();
        looksArguments();
        apartOfAllWeeks();
        apartOfWeeksSeen();
        likeTheLeastApart();
        doubtOfTheNext();
        nothingSeen();
        coloursAsTheyAre();
        IT.end();
    }

    private static AcresPaid withField() {
        AcresPaid x = new AcresPaid();
        x.farm(1, 0);
        Checks.field(x, 0, 0, 0, 1, 1);
        return x;
    }

    /** "COLOUR of a CROP in a WEEK becomes v (0 .. 99): what it was. BAD". */
    private static void coloursTold() {
        int[] edges = {MIN, -1, 0, 1, 5, 6, 7, 8, 98, 99, 100, MAX};
        for (int crop : edges) {
            for (int week : edges) {
                for (int v : edges) {
                    boolean good = 0 <= crop && crop <= 7 && 0 <= week && week <= 5 && 0 <= v && v <= 99;
                    IT.due("21: colour(" + crop + ", " + week + ", " + v + ")", good ? 0 : BAD, new AcresPaid().colour(crop, week, v));
                }
            }
        }
    }

    /** "what it was": of each crop and week its own; a refused call changes none. */
    private static void coloursKept() {
        AcresPaid x = new AcresPaid();
        for (int i = 0; i < 48; i++) {
            x.colour(i / 6, i % 6, 2 * i);
        }
        int[][] refused = {{0, 0, 100}, {0, 0, -1}, {0, 6, 5}, {1, -1, 5}, {8, 0, 5}, {-1, 5, 5}};
        for (int[] r : refused) {
            IT.due("21: refused", BAD, x.colour(r[0], r[1], r[2]));
        }
        for (int i = 0; i < 48; i++) {
            IT.due("21: crop " + i / 6 + " in week " + i % 6, 2 * i, x.colour(i / 6, i % 6, 99));
            IT.due("21: anew", 99, x.colour(i / 6, i % 6, 0));
        }
    }

    private static void seeArguments() {
        AcresPaid x = withField();
        int permit = x.permit(4);
        Checks.bytes(x, 5, 1, 2, 3, 4, 5, 6);
        for (int field : new int[] {MIN, -1, 0, permit, 3, 150, MAX}) {
            IT.due("22: field " + field, BAD, x.see(field, 0, 5, 0));
        }
        for (int year : new int[] {MIN, -1, 0, 9, 10, MAX}) {
            IT.due("22: year " + year, year == 0 || year == 9 ? 6 : BAD, x.see(1, year, 5, 0));
        }
        for (int shelf : new int[] {MIN, -1, 6, MAX}) {
            IT.due("22: shelf " + shelf, BAD, x.see(1, 0, shelf, 0));
        }
        x.keep(5, 0);
        IT.due("22: bad ahead of -12", BAD, x.see(0, 0, 5, 0));
        IT.due("22: bad ahead of -12", BAD, x.see(1, 10, 5, 0));
        IT.due("22: shelf 0 holds nothing", 0, x.see(1, 0, 0, 0));
    }

    /** "-12 (no ROW of bytes; a SHELF that holds nothing is missing)"; it changes nothing. */
    private static void onlyRowsOfBytes() {
        for (int sort = 0; sort < 6; sort++) {
            AcresPaid x = withField();
            x.colour(4, 0, 44);
            Checks.bytes(x, 0, 44);
            x.see(1, 0, 0, 0);
            if (sort == 5) {
                x.keep(1, 1);
            } else {
                x.row(1, sort, 6);
            }
            IT.due("22: sort " + sort, sort == 0 ? 6 : OTHER_KIND, x.see(1, 0, 1, 0));
            IT.due("22: it looks like", sort == 0 ? 0 : 4, x.looks(1, 0, 0));
            IT.due("22: in doubt", sort == 0 ? 0 : 44, x.looks(1, 0, 1));
            if (sort > 0) {
                IT.due("22: from a place that is not there", OTHER_KIND, x.see(1, 0, 1, 99));
            }
        }
    }

    /** "from a place on: 6 numbers"; "it ends where the row .. ends: WEEKS behind are not seen". */
    private static void sixNumbersFromAPlace() {
        for (int n : new int[] {0, 1, 5, 6, 7, 60}) {
            for (int i : new int[] {0, 1, n - 7, n - 6, n - 5, n - 2, n - 1, n, n + 1, MAX - 5, MAX - 4, MAX}) {
                if (i < 0) {
                    continue;
                }
                AcresPaid x = withField();
                x.row(0, 0, n);
                int due = Math.max(0, (int) Math.min(6, (long) n - i));
                IT.due("22: of " + n + " from " + i + " on", due, x.see(1, 0, 0, i));
            }
        }
        AcresPaid x = withField();
        Checks.bytes(x, 0, 90, 10, 10, 10, 10, 10, 10, 90);
        for (int week = 0; week < 6; week++) {
            x.colour(3, week, 10);
        }
        IT.due("22: from 1 on", 6, x.see(1, 0, 0, 1));
        IT.due("22: those six and no others", 3, x.looks(1, 0, 0));
        IT.due("22: sixty apart from the rest", 60, x.looks(1, 0, 1));
    }

    private static void endsWhereTheRowIsMissing() {
        AcresPaid x = withField();
        Checks.bytes(x, 0, 5);
        IT.due("22: one", 1, x.see(1, 0, 0, 0));
        IT.due("22: a shelf that holds nothing", 0, x.see(1, 0, 3, 0));
        IT.due("22: nothing is seen then", NOT, x.looks(1, 0, 0));
        x.see(1, 0, 0, 0);
        x.keep(0, -1);
        IT.due("22: it holds nothing any more", 0, x.see(1, 0, 0, 0));
        IT.due("22: from any place on", 0, x.see(1, 0, 0, MAX));
        // no place below 0 is there: the row has ended where it would begin
        Checks.bytes(x, 0, 5, 6, 7);
        IT.due("22: from -1 on", 0, x.see(1, 0, 0, -1));
        IT.due("22: from MIN on", 0, x.see(1, 0, 0, MIN));
    }

    /** "one that is the told BLANK (-1 at first) is not seen"; "The BLANK: what it was". */
    private static void theBlank() {
        AcresPaid x = withField();
        Checks.bytes(x, 0, -1, -2, 0, -1, 1, -1);
        IT.due("22: three are -1", 3, x.see(1, 0, 0, 0));
        IT.due("23: -1 at first", -1, x.blank(-2));
        IT.due("22: one is -2", 5, x.see(1, 0, 0, 0));
        IT.due("23: what it was", -2, x.blank(0));
        IT.due("22: one is 0", 5, x.see(1, 0, 0, 0));
        IT.due("23: what it was", 0, x.blank(2));
        IT.due("22: none is 2", 6, x.see(1, 0, 0, 0));
        Checks.bytes(x, 0, 2, 2, 2, 2, 2, 2);
        IT.due("22: all are 2", 0, x.see(1, 0, 0, 0));
        IT.due("24: nothing is seen", NOT, x.looks(1, 0, 0));
        Checks.bytes(x, 0, 2, 2, 2, 2, 2, 3);
        IT.due("22: all but the last", 1, x.see(1, 0, 0, 0));
        Checks.bytes(x, 0, 3, 2, 2, 2, 2, 2);
        IT.due("22: all but the first", 1, x.see(1, 0, 0, 0));
        x.colour(6, 0, 3);
        IT.due("24: the first week", 6, x.looks(1, 0, 0));
    }

    private static void blankOfAnyNumber() {
        AcresPaid x = withField();
        Checks.bytes(x, 0, -128, 127, 0, 0, 0, 0);
        int was = -1;
        int[][] want = {{-128, 5}, {127, 5}, {128, 6}, {-129, 6}, {255, 6}, {256, 6}, {MIN, 6}, {MAX, 6}, {0, 2}};
        for (int[] w : want) {
            IT.due("23: what it was", was, x.blank(w[0]));
            IT.due("22: blank " + w[0], w[1], x.see(1, 0, 0, 0));
            was = w[0];
        }
    }

    /** "(In place of what was SEEN.)" */
    private static void inPlaceOfWhatWasSeen() {
        AcresPaid x = withField();
        for (int week = 0; week < 6; week++) {
            x.colour(5, week, 50);
        }
        Checks.bytes(x, 0, 50, 50, 50, 50, 50, 50);
        x.see(1, 0, 0, 0);
        IT.due("24: all six", 300, x.looks(1, 0, 1));
        IT.due("22: the last two", 2, x.see(1, 0, 0, 4));
        IT.due("24: two weeks only", 100, x.looks(1, 0, 1));
        Checks.bytes(x, 0, -1, -1, 50);
        IT.due("22: one between blanks", 1, x.see(1, 0, 0, 0));
        IT.due("24: one week only", 50, x.looks(1, 0, 1));
    }

    private static void eachFieldAndYear() {
        AcresPaid x = withField();
        int meadow = Checks.meadow(x, 0, 3, 3, 4, 4);
        x.colour(1, 0, 10);
        x.colour(2, 0, 20);
        x.colour(3, 0, 30);
        Checks.bytes(x, 0, 10, 20, 30);
        x.see(1, 0, 0, 0);
        x.see(1, 9, 0, 1);
        x.see(meadow, 0, 0, 2);
        IT.due("24: in year 0 10, 20, 30", 1, x.looks(1, 0, 0));
        IT.due("24: in year 9 20, 30", 2, x.looks(1, 9, 0));
        IT.due("24: of the meadow 30", 3, x.looks(meadow, 0, 0));
        for (int year = 1; year < 9; year++) {
            IT.due("24: nothing in year " + year, NOT, x.looks(1, year, 0));
        }
        IT.due("24: nothing of the meadow in year 9", NOT, x.looks(meadow, 9, 0));
    }

    private static void looksArguments() {
        AcresPaid x = withField();
        int permit = x.permit(4);
        Checks.bytes(x, 0, 1);
        x.see(1, 0, 0, 0);
        for (int field : new int[] {MIN, -1, 0, permit, 3, MAX}) {
            IT.due("24: field " + field, BAD, x.looks(field, 0, 0));
        }
        for (int year : new int[] {MIN, -1, 10, MAX}) {
            IT.due("24: year " + year, BAD, x.looks(1, year, 0));
        }
        for (int what : new int[] {MIN, -1, 0, 1, 2, MAX}) {
            IT.due("24: what " + what, what == 0 || what == 1 ? 0 : BAD, x.looks(1, 0, what));
            IT.due("24: bad ahead of not", what == 0 || what == 1 ? NOT : BAD, x.looks(1, 1, what));
        }
    }

    /** "the sum over WEEKS that are seen of the differences", up and down. */
    private static void apartOfAllWeeks() {
        AcresPaid x = withField();
        Checks.bytes(x, 0, -128, 127, 0, 99, 50, 1);
        x.see(1, 0, 0, 0);
        for (int crop = 0; crop < 8; crop++) {
            for (int week = 0; week < 6; week++) {
                x.colour(crop, week, 99);
            }
        }
        // 227 + 28 + 99 + 0 + 49 + 98 = 501 for all but crop 7: 128 + 127 + 0 + 99 + 50 + 1 = 405
        for (int week = 0; week < 6; week++) {
            x.colour(7, week, 0);
        }
        IT.due("24: the last crop", 7, x.looks(1, 0, 0));
        IT.due("24: 501 less 405", 96, x.looks(1, 0, 1));
    }

    private static void apartOfWeeksSeen() {
        for (int week = 0; week < 6; week++) {
            AcresPaid x = withField();
            int[] row = {-1, -1, -1, -1, -1, -1};
            row[week] = 9;
            Checks.bytes(x, 0, row);
            IT.due("22: week " + week + " only", 1, x.see(1, 0, 0, 0));
            for (int other = 0; other < 6; other++) {
                x.colour(6, other, other == week ? 9 : 99);
            }
            IT.due("24: the other weeks count nothing", 6, x.looks(1, 0, 0));
            IT.due("24: and no more doubt", 9, x.looks(1, 0, 1));
        }
    }

    /** "the CROP least APART (of several the least)". */
    private static void likeTheLeastApart() {
        for (int best = 0; best < 8; best++) {
            AcresPaid x = withField();
            Checks.bytes(x, 0, 60);
            x.see(1, 0, 0, 0);
            x.colour(best, 0, 59);
            IT.due("24: crop " + best, best, x.looks(1, 0, 0));
            x.colour(7, 0, 61);
            IT.due("24: of two the least", best, x.looks(1, 0, 0));
            IT.due("24: 59 and 61 are alike apart from 60", best == 7 ? 59 : 0, x.looks(1, 0, 1));
            x.colour(7, 0, 60);
            IT.due("24: the one that is less apart, though greater", 7, x.looks(1, 0, 0));
            IT.due("24: by one", best == 7 ? 60 : 1, x.looks(1, 0, 1));
        }
        AcresPaid all = withField();
        Checks.bytes(all, 0, 60);
        all.see(1, 0, 0, 0);
        IT.due("24: of all alike the least", 0, all.looks(1, 0, 0));
        IT.due("24: and no doubt", 0, all.looks(1, 0, 1));
    }

    /** "DOUBT: how much more the next one is APART". */
    private static void doubtOfTheNext() {
        for (int best = 0; best < 8; best++) {
            for (int next = 0; next < 8; next++) {
                if (next != best) {
                    AcresPaid x = withField();
                    Checks.bytes(x, 0, 60);
                    x.see(1, 0, 0, 0);
                    x.colour(best, 0, 70);
                    x.colour(next, 0, 37);
                    IT.due("24: " + best + " ahead of " + next, best, x.looks(1, 0, 0));
                    IT.due("24: 23 less 10", 13, x.looks(1, 0, 1));
                }
            }
        }
    }

    /** "nothing is seen: NOT". */
    private static void nothingSeen() {
        AcresPaid x = withField();
        IT.due("24: never", NOT, x.looks(1, 0, 0));
        IT.due("24: never", NOT, x.looks(1, 0, 1));
        x.row(0, 0, 0);
        IT.due("22: an empty row", 0, x.see(1, 0, 0, 0));
        IT.due("24: nothing", NOT, x.looks(1, 0, 0));
        x.row(0, 0, 1);
        IT.due("22: one number", 1, x.see(1, 0, 0, 0));
        IT.due("24: something", 0, x.looks(1, 0, 0));
    }

    private static void coloursAsTheyAre() {
        AcresPaid x = withField();
        Checks.bytes(x, 0, 60);
        x.see(1, 0, 0, 0);
        x.colour(2, 0, 60);
        IT.due("24: told since", 2, x.looks(1, 0, 0));
        x.colour(2, 0, 100);
        IT.due("24: a refused colour changes nothing", 60, x.looks(1, 0, 1));
        x.giveUp(1);
        IT.due("24: one given up, too", 2, x.looks(1, 0, 0));
        IT.due("22: is seen, too", 1, x.see(1, 1, 0, 0));
    }
}
