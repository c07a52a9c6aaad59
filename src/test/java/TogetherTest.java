/**
 * Sentences of "Terms" that several promises use, each told once and seen by every call that uses it; and calls that work
 * on the same state, one behind another.
 */
public final class TogetherTest {
    private static final int BAD = -1, NOT = -2, FULL = -3, BIG = -4, VOID = -2000000000;
    private static final int OTHER_KIND = -12;
    private static final int ONE = 0, TWO = 1, AFAR = 2, FIELD = 3, OVER = 4, MEADOW = 5, DEAR = 6, CHEAP = 7, HERS = 8;
    private static final int S = 2, F = 3, G = 4, C = 5, T = 6, L = 7, E = 8, P = 9, J = 11, B = 12;
    private static final Checks IT = new Checks("together");

    public static void main(String[] args) {
        asReadmeSays();
        theCountry();
        aHolderSeenByAll();
        aFieldGivenUpSeenByAll();
        aClaimMadeAnewSeenByAll();
        anOutSeenByAll();
        aControlSeenByAll();
        aCloseSeenByAll();
        aTextSeenByAll();
        majeureSeenByAll();
        anAreaSeenByAll();
        aKindSeenByAll();
        oneRingForFourCalls();
        oneTapeForThreeCalls();
        shelvesAndWhatWasSeen();
        twoActsAndAShelf();
        settledAndPaidAnew();
        oneLotForAllDraws();
        givenDrawnAndMixedStay();
        oneYearAskedAsKnownOnManyDays();
        IT.end();
    }

    /** Farms 0, 1 of LAND 0 that overlap in two squares, a third one of LAND 1; three permits; all claimed on day 0. */
    private static AcresPaid country() {
        AcresPaid x = new AcresPaid();
        x.farm(1, 0);
        x.farm(2, 0);
        x.farm(1, 1);
        Checks.field(x, ONE, 0, 0, 4, 3);
        Checks.field(x, TWO, 3, 0, 6, 2);
        Checks.meadow(x, ONE, 0, 6, 5, 8);
        Checks.permit(x, 20, ONE, 0);
        Checks.permit(x, 5, ONE, 0);
        Checks.permit(x, 9, TWO, 0);
        claims(x);
        return x;
    }

    private static void claims(AcresPaid x) {
        x.claim(ONE, FIELD, 1);
        x.claim(ONE, MEADOW, 0);
        x.claim(TWO, OVER, 2);
    }

    /** What farms 0 and 1 are paid for year 0, as known on a day. */
    private static void paid(AcresPaid x, String when, int k, int one, int two) {
        IT.due(when + ": paid to 0", one, x.paid(ONE, 0, k, 0));
        IT.due(when + ": paid to 1", two, x.paid(TWO, 0, k, 0));
    }

    private static void named(AcresPaid x, String when, int farm, int k, int... namesAndValues) {
        for (int i = 0; i + 1 < namesAndValues.length; i += 2) {
            IT.due(when + ": name " + namesAndValues[i] + " of " + farm, namesAndValues[i + 1], x.named(farm, 0, k, namesAndValues[i]));
        }
    }

    private static void asReadmeSays() {
        AcresPaid x = new AcresPaid();
        int farm = x.farm(1, 0);
        x.corner(0, 0);
        x.corner(6, 0);
        x.corner(6, 4);
        x.corner(0, 4);
        int field = x.field(farm, 0);
        x.claim(farm, field, 1);
        int permit = x.permit(50);
        x.handOver(permit, farm, 0);
        IT.due("README: the field's area", 24, x.ofBody(field, 1));
        IT.due("README: coins", 663, x.paid(farm, 0, 0, 0));
        IT.due("README: refused", BAD, x.claim(farm, permit, 1));
    }

    private static void theCountry() {
        AcresPaid x = country();
        paid(x, "at first", 0, 351, 52);
        named(x, "at first", ONE, 0, S, 20, F, 20, G, 50, C, 2, T, 50, L, 0, E, 0, P, 2, J, 0, B, 0);
        named(x, "at first", TWO, 0, S, 4, F, 4, G, 0, C, 1, T, 100, L, 0, E, 0, P, 1, J, 0, B, 0);
        IT.due("at first: to the third", 0, x.paid(AFAR, 0, 0, 0));
    }

    /** HOLDER: by holder, ofBody, claim, named p, paid, budget, back, tried. */
    private static void aHolderSeenByAll() {
        AcresPaid x = country();
        x.days(10);
        x.handOver(CHEAP, TWO, 5);
        x.handOver(MEADOW, TWO, 5);
        IT.due("handed over: from that day", TWO, x.holder(CHEAP, 5, 10));
        IT.due("handed over: the day ahead", ONE, x.holder(CHEAP, 4, 10));
        IT.due("handed over: as known earlier", ONE, x.holder(CHEAP, 5, 9));
        IT.due("handed over: today", TWO, x.ofBody(CHEAP, 4));
        IT.due("handed over: the meadow", TWO, x.ofBody(MEADOW, 4));
        named(x, "handed over", ONE, 10, P, 1, S, 20);
        named(x, "handed over", TWO, 10, P, 2, S, 4);
        named(x, "handed over, as known earlier", ONE, 9, P, 2);
        paid(x, "handed over", 10, 273, 52);
        paid(x, "handed over, as known earlier", 9, 351, 52);
        IT.due("handed over: no budget above", 273, x.budget(ONE, 0, 325));
        IT.due("handed over: half the budget", 84 + 52 - 52, x.budget(ONE, 0, 100));
        IT.due("handed over: the rest of it", 16, x.budget(TWO, 0, 100));
        IT.due("handed over: claimed no more", NOT, x.claim(ONE, MEADOW, 0));
        IT.due("handed over: claimed by the other", 4, x.claim(TWO, MEADOW, 0));
        IT.due("handed over: all of it in fault", 10, x.counted(ONE, MEADOW, 0, 10, 3));
        IT.due("handed over: for both", 10, x.counted(TWO, MEADOW, 0, 10, 3));
        IT.due("handed over: it must be given up, and the lesser", 6 + 10, x.least(0));
        IT.due("handed over: the lesser", OVER, x.given(0));
        IT.due("handed over: the meadow goes", MEADOW, x.given(1));
        x.days(355);
        IT.due("handed over: nothing was settled", 13 * 21, x.back(ONE));
    }

    /** "FIELDS given up by then are claimed no more": by claim, counted, control, named, paid, least, draw, rate. */
    private static void aFieldGivenUpSeenByAll() {
        AcresPaid x = country();
        x.control(TWO, OVER, 0, 1);
        x.days(7);
        IT.due("overlap: the lesser goes", 6, x.least(0));
        IT.due("overlap: drawn", 2, x.draw(0, 0, 9));
        x.giveUp(OVER);
        IT.due("given up: the day", 7, x.ofBody(OVER, 3));
        IT.due("given up: held as before", TWO, x.ofBody(OVER, 4));
        IT.due("given up: its squares stay", 1, x.has(OVER, 3, 0));
        IT.due("given up: claimed no more", NOT, x.claim(TWO, OVER, 2));
        IT.due("given up: controlled no more", NOT, x.control(TWO, OVER, 0, 2));
        IT.due("given up: no claim that counts", NOT, x.counted(TWO, OVER, 0, 7, 0));
        IT.due("given up: as known earlier", 4, x.counted(TWO, OVER, 0, 6, 0));
        IT.due("given up: as known earlier, found", 3, x.counted(TWO, OVER, 0, 6, 1));
        IT.due("given up: the other's squares", 12, x.counted(ONE, FIELD, 0, 7, 0));
        IT.due("given up: the other's, as known earlier", 10, x.counted(ONE, FIELD, 0, 6, 0));
        IT.due("given up: no fault", 0, x.counted(ONE, FIELD, 0, 7, 3));
        named(x, "given up", ONE, 7, S, 22, T, 54, G, 45);
        named(x, "given up", TWO, 7, S, 0, F, 0, E, 0, C, 0, L, 0);
        named(x, "given up, as known earlier", TWO, 6, S, 4, F, 3, E, 33);
        paid(x, "given up", 7, 351, 0);
        paid(x, "given up, as known earlier", 6, 351, 39);
        IT.due("given up: nothing to give up", 0, x.least(0));
        IT.due("given up: none", BAD, x.given(0));
        IT.due("given up: one drawn", 1, x.draw(0, 0, 9));
        IT.due("given up: still claimed in all", 3, x.count(4));
    }

    /** "of one FARM, FIELD and YEAR the one made last counts": by counted, named c, t, l, paid, rate. */
    private static void aClaimMadeAnewSeenByAll() {
        AcresPaid x = country();
        x.control(ONE, FIELD, 0, 4);
        x.days(140);
        x.claim(ONE, FIELD, 0);
        IT.due("anew: the crop", 0, x.counted(ONE, FIELD, 0, 140, 2));
        IT.due("anew: the crop as known earlier", 1, x.counted(ONE, FIELD, 0, 139, 2));
        IT.due("anew: late", 5, x.counted(ONE, FIELD, 0, 140, 4));
        IT.due("anew: the other field is not", 0, x.counted(ONE, MEADOW, 0, 140, 4));
        named(x, "anew", ONE, 140, C, 1, T, 100, L, 5, S, 20, F, 16, G, 50);
        named(x, "anew, as known earlier", ONE, 139, C, 2, T, 50, L, 0, S, 20, F, 16);
        // 16 squares: 16 + 200 + 30, three tenths more, five hundredths away
        IT.due("anew: paid", 319 - 15, x.paid(ONE, 0, 140, 0));
        IT.due("anew: paid as known earlier", 319, x.paid(ONE, 0, 139, 0));
        IT.due("anew: the farm is controlled", 1, x.rate(0, 0, 0));
        IT.due("anew: four claims", 4, x.count(4));
    }

    /** OUTS: by counted, named, paid, back; not by least and has. */
    private static void anOutSeenByAll() {
        AcresPaid x = country();
        x.settle(ONE, 0);
        x.days(365);
        claims(x);
        x.out(0, 1, 1);
        IT.due("out from year 1: of year 0", 10, x.counted(ONE, FIELD, 0, 365, 0));
        IT.due("out from year 1: of year 1", 8, x.counted(ONE, FIELD, 1, 365, 0));
        IT.due("out from year 1: nothing to pay back", 0, x.back(ONE));
        x.out(300, 301, 0);
        IT.due("out in the overlap: counted as before", 10, x.counted(ONE, FIELD, 0, 365, 0));
        IT.due("out in the overlap: still a fault", 2, x.counted(ONE, FIELD, 0, 365, 3));
        IT.due("out in the overlap: to be given up", 6, x.least(0));
        x.out(6, 407, 0);
        named(x, "a meadow out", ONE, 365, S, 10, G, 0, C, 1, T, 100);
        named(x, "a meadow out, as known earlier", ONE, 364, S, 20, G, 50, C, 2, T, 50);
        IT.due("a meadow out: its claim counts", 0, x.counted(ONE, MEADOW, 0, 365, 0));
        IT.due("a meadow out: its squares stay", 1, x.has(MEADOW, 0, 6));
        paid(x, "a meadow out", 365, 273, 52);
        IT.due("a meadow out: back", 273 - 351, x.back(ONE));
    }

    /** FOUND: by counted, named f, e, b, paid, rate, draw, budget, back, tried. */
    private static void aControlSeenByAll() {
        AcresPaid x = country();
        x.settle(ONE, 0);
        x.settle(TWO, 0);
        x.days(365);
        claims(x);
        IT.due("uncontrolled: the lesser is drawn", 1, x.draw(0, 1, 1));
        IT.due("uncontrolled: it is 0", ONE, x.drawn(0));
        x.control(TWO, OVER, 0, 2);
        IT.due("controlled: counted", 4, x.counted(TWO, OVER, 0, 365, 0));
        IT.due("controlled: found", 2, x.counted(TWO, OVER, 0, 365, 1));
        IT.due("controlled: found as known earlier", 4, x.counted(TWO, OVER, 0, 364, 1));
        IT.due("controlled: found of year 1", 4, x.counted(TWO, OVER, 1, 365, 1));
        named(x, "controlled", TWO, 365, S, 4, F, 2, E, 100);
        IT.due("controlled: a year of errors", 1, x.named(TWO, 1, 365, B));
        IT.due("controlled: none as known earlier", 0, x.named(TWO, 1, 364, B));
        IT.due("controlled: none ahead of year 0", 0, x.named(TWO, 0, 365, B));
        paid(x, "controlled", 365, 351, 26);
        IT.due("controlled: back", -26, x.back(TWO));
        IT.due("controlled: one farm", 1, x.rate(0, 0, 0));
        IT.due("controlled: in error", 1, x.rate(0, 1, 0));
        IT.due("controlled: none in year 1", 0, x.rate(1, 0, 0));
        x.draw(0, 1, 1);
        IT.due("controlled: the greater risk is drawn", TWO, x.drawn(0));
        x.draw(0, 0, 1);
        IT.due("controlled: no risk of year 0", ONE, x.drawn(0));
        IT.due("controlled: the budget by what is found", 26, x.budget(TWO, 0, 377));
        int text = Checks.text(x, 0, 5, "e+1");
        IT.due("controlled: a rate by errors gives one more", 1, x.tried(text, 0, 0, 0));
        IT.due("controlled: and nobody less", 0, x.tried(text, 0, 0, 1));
    }

    /** CLOSE "as it is now": by counted, named l, texts, paid, back, and what was settled stays. */
    private static void aCloseSeenByAll() {
        AcresPaid x = new AcresPaid();
        x.farm(1, 0);
        x.farm(1, 3);
        x.days(130);
        for (int farm = 0; farm < 2; farm++) {
            x.claim(farm, Checks.field(x, farm, 10 * farm, 0, 10 * farm + 10, 1), 0);
            Checks.permit(x, 99, farm, 0);
        }
        IT.due("in time: settled", 1300, x.settle(0, 0));
        x.days(235);
        x.close(0, 120);
        IT.due("closed earlier: the claim", 10, x.counted(0, 2, 0, 365, 4));
        IT.due("closed earlier: the name", 10, x.named(0, 0, 365, L));
        IT.due("closed earlier: paid", 1170, x.paid(0, 0, 365, 5));
        IT.due("closed earlier: also as known on the claim's day", 1170, x.paid(0, 0, 130, 0));
        IT.due("closed earlier: but not behind FINE", 1300, x.paid(0, 0, 365, 4));
        IT.due("closed earlier: back", -130, x.back(0));
        IT.due("closed earlier: not of another land", 1300, x.paid(1, 0, 365, 0));
        Checks.text(x, 3, 0, "l");
        IT.due("closed earlier: a fine by days", 1170, x.paid(0, 0, 365, 4));
        IT.due("closed earlier: and late", 1053, x.paid(0, 0, 365, 0));
        x.close(0, 364);
        IT.due("closed late: paid", 1300, x.paid(0, 0, 365, 0));
        IT.due("closed late: back", 0, x.back(0));
        x.close(0, 0);
        IT.due("closed at once: all away", 0, x.paid(0, 0, 365, 0));
    }

    /** A TEXT in force: by inForce, paid, budget, back, tried; of its LAND, YEARS and DAYS alone. */
    private static void aTextSeenByAll() {
        AcresPaid x = country();
        x.settle(ONE, 0);
        x.days(20);
        int three = Checks.text(x, 0, 0, "3");
        IT.due("text: in force", three, x.inForce(0, 0, 20));
        IT.due("text: in a later year", three, x.inForce(0, 9, 20));
        IT.due("text: not as known earlier", NOT, x.inForce(0, 0, 19));
        IT.due("text: not of another land", NOT, x.inForce(10, 0, 20));
        IT.due("text: not of another use", NOT, x.inForce(1, 0, 20));
        paid(x, "text", 20, 403, 62);
        paid(x, "text, as known earlier", 19, 351, 52);
        IT.due("text: tried against itself, more", 0, x.tried(three, 0, 0, 0));
        IT.due("text: tried against itself, fewer", 0, x.tried(three, 0, 0, 1));
        int one = Checks.text(x, 10, 7, "1");
        IT.due("text: one of another land and year, fewer", 2, x.tried(one, 0, 0, 1));
        IT.due("text: tried changes nothing", 403, x.paid(ONE, 0, 20, 0));
        IT.due("text: the whole budget", 403, x.budget(ONE, 0, 465));
        IT.due("text: one coin less", 402, x.budget(ONE, 0, 464));
        x.days(345);
        IT.due("text: back", 52, x.back(ONE));
        int none = Checks.text(x, 2, 1, "0");
        IT.due("text: a step for year 1", none, x.inForce(2, 1, 365));
        IT.due("text: back of year 0 all the same", 52, x.back(ONE));
    }

    /** MAJEURE: by named j, by texts, by FINE; AS KNOWN. */
    private static void majeureSeenByAll() {
        AcresPaid x = country();
        Checks.text(x, 3, 0, "j?77;50");
        Checks.text(x, 0, 0, "1+j");
        x.days(3);
        x.majeure(ONE, 0);
        named(x, "majeure", ONE, 3, J, 1);
        named(x, "majeure, as known earlier", ONE, 2, J, 0);
        named(x, "majeure, of the other", TWO, 3, J, 0);
        IT.due("majeure: not of year 1", 0, x.named(ONE, 1, 3, J));
        IT.due("majeure: the rate", 290, x.paid(ONE, 0, 3, 1));
        IT.due("majeure: no fine", 377, x.paid(ONE, 0, 3, 4));
        IT.due("majeure: the rate as known earlier", 270, x.paid(ONE, 0, 2, 1));
        IT.due("majeure: the fine as known earlier, up", 175, x.paid(ONE, 0, 2, 4));
        IT.due("majeure: the line as known earlier", 1, x.paid(ONE, 0, 2, 6));
        IT.due("majeure: the other is fined", 26, x.paid(TWO, 0, 3, 0));
        IT.due("majeure: only once", NOT, x.majeure(ONE, 0));
    }

    /** AREA: by area, ofBody, has, counted, least, act. */
    private static void anAreaSeenByAll() {
        AcresPaid x = new AcresPaid();
        x.farm(1, 0);
        x.farm(1, 0);
        int[] ring = {2, 2, 9, 2, 9, 4, 7, 4, 7, 9, 4, 9, 4, 6, 2, 6};
        Checks.ring(x, ring);
        int area = x.area();
        IT.due("area: by rows", 2 * 7 + 2 * 5 + 3 * 3, area);
        int field = x.field(0, 0);
        int squares = 0;
        for (int i = 0; i < 12 * 12; i++) {
            squares += x.has(field, i / 12, i % 12);
        }
        IT.due("area: squares that it has", area, squares);
        IT.due("area: of the body", area, x.ofBody(field, 1));
        x.claim(0, field, 3);
        IT.due("area: counted", area, x.counted(0, field, 0, 0, 0));
        IT.due("area: holds", (5 ^ field) + area, x.act(field, 2, 5));
        x.handOver(field, 1, 0);
        x.claim(1, field, 3);
        IT.due("area: in fault", area, x.counted(0, field, 0, 0, 3));
        IT.due("area: to be given up", area, x.least(0));
    }

    /** KIND: by ofBody, named k, taken, act, count. */
    private static void aKindSeenByAll() {
        int[] kinds = {1, 2, 3, 7};
        int[] yields = {20, 20, 40, 80};
        AcresPaid x = new AcresPaid();
        for (int i = 0; i < 4; i++) {
            x.farm(kinds[i], i);
            x.keep(0, i);
            IT.due("kind: of the body", kinds[i], x.ofBody(i, 0));
            IT.due("kind: its land", i, x.ofBody(i, 1));
            IT.due("kind: its name", kinds[i], x.named(i, 0, 0, 1));
            IT.due("kind: taken", kinds[i], x.taken(0, 0));
            IT.due("kind: taken for a farm", kinds[i], x.taken(0, 1));
            IT.due("kind: for a young one", i % 2 == 1 ? kinds[i] : OTHER_KIND, x.taken(0, 2));
            x.act(i, 0, 1);
            IT.due("kind: what it yields by", yields[i], x.trace(0));
            IT.due("kind: farms", i + 1, x.count(1));
        }
        for (int i = 0; i < 4; i++) {
            Checks.text(x, 10 * i, 0, "k*10");
            x.claim(i, Checks.field(x, i, i, i, i + 1, i + 1), 0);
            Checks.permit(x, 1, i, 0);
            IT.due("kind: in a text", 10 * kinds[i] + 1, x.paid(i, 0, 0, 1));
        }
    }

    private static void oneRingForFourCalls() {
        AcresPaid x = new AcresPaid();
        x.farm(1, 0);
        Checks.ring(x, 0, 0, 2, 0, 2, 2);
        IT.due("ring: three corners", NOT, x.area());
        IT.due("ring: no field of it", NOT, x.field(0, 0));
        IT.due("ring: they stay", 3, x.count(10));
        IT.due("ring: a bad corner", BAD, x.corner(0, 25));
        IT.due("ring: the fourth", 4, x.corner(0, 2));
        IT.due("ring: area", 4, x.area());
        IT.due("ring: bad, but sound", BAD, x.field(1, 0));
        IT.due("ring: still there", 4, x.area());
        IT.due("ring: a field", 1, x.field(0, 0));
        IT.due("ring: none then", NOT, x.area());
        IT.due("ring: none to forget", 0, x.uncorner());
        IT.due("ring: a new one begins", 1, x.corner(5, 5));
        IT.due("ring: forgotten", 1, x.uncorner());
        IT.due("ring: the field stays", 1, x.has(1, 1, 1));
        IT.due("ring: the field has no more", 0, x.has(1, 2, 1));
    }

    private static void oneTapeForThreeCalls() {
        AcresPaid x = country();
        Checks.tape(x, "(1+");
        IT.due("tape: refused text", BAD, x.text(4, 0));
        IT.due("tape: it stays", 3, x.count(9));
        Checks.tape(x, "y)*2");
        IT.due("tape: seven", 7, x.count(9));
        IT.due("tape: a text of all of it", 0, x.text(0, 0));
        IT.due("tape: empty", 0, x.count(9));
        IT.due("tape: one text", 1, x.count(8));
        IT.due("tape: twenty squares twice", 40 + 250, x.paid(ONE, 0, 0, 1));
        Checks.tape(x, "1++");
        IT.due("tape: a fault", -102, x.text(0, 0));
        IT.due("tape: empty then, too", 0, x.count(9));
        IT.due("tape: no text by it", 1, x.count(8));
        IT.due("tape: the first is in force", 0, x.inForce(0, 0, 0));
        for (int i = 1; i < 16; i++) {
            Checks.text(x, 20, 0, "1");
        }
        Checks.tape(x, "9");
        IT.due("tape: sixteen texts", FULL, x.text(0, 0));
        IT.due("tape: it stays when full", 1, x.count(9));
        IT.due("tape: what was fed goes on", 2, x.feed(1, '9'));
        IT.due("tape: paid as before", 40 + 250, x.paid(ONE, 0, 0, 1));
    }

    /** What is SEEN is what the shelf held then; COLOURS are as they are. */
    private static void shelvesAndWhatWasSeen() {
        AcresPaid x = country();
        x.colour(3, 0, 50);
        x.colour(3, 1, 60);
        Checks.bytes(x, 0, 49, 58, -1);
        IT.due("shelf: two weeks", 2, x.see(FIELD, 0, 0, 0));
        IT.due("shelf: like", 3, x.looks(FIELD, 0, 0));
        IT.due("shelf: doubt", 104, x.looks(FIELD, 0, 1));
        x.put(0, 0, 0);
        x.put(0, 1, 0);
        x.keep(0, -1);
        x.blank(49);
        IT.due("shelf: gone, and seen as before", 3, x.looks(FIELD, 0, 0));
        IT.due("shelf: not of another year", NOT, x.looks(FIELD, 1, 0));
        x.colour(0, 0, 49);
        x.colour(0, 1, 58);
        IT.due("colour: it looks like another", 0, x.looks(FIELD, 0, 0));
        IT.due("colour: the doubt of it", 3, x.looks(FIELD, 0, 1));
        x.keep(0, ONE);
        IT.due("shelf: a body", OTHER_KIND, x.see(FIELD, 0, 0, 0));
        IT.due("shelf: refused, and seen as before", 3, x.looks(FIELD, 0, 1));
        Checks.bytes(x, 0, 1, 49, 58, 7);
        x.shift(0, 1, 0, 0, 3);
        IT.due("shelf: moved ahead, one is blank", 3, x.see(FIELD, 0, 0, 0));
        IT.due("shelf: 58 7 7 looks like 0", 0, x.looks(FIELD, 0, 0));
        IT.due("shelf: by two less than 3", 2, x.looks(FIELD, 0, 1));
        x.giveUp(FIELD);
        IT.due("given up: it looks as before", 0, x.looks(FIELD, 0, 0));
    }

    private static void twoActsAndAShelf() {
        AcresPaid x = country();
        x.keep(2, TWO);
        IT.due("act: claims", 2 * (2 * 3 - TWO + 1), x.act(TWO, 1, 3));
        IT.due("act: four bodies", 4, x.count(11));
        IT.due("act: holds", 3 ^ DEAR, x.act(DEAR, 2, 3));
        IT.due("act: one body", 1, x.count(11));
        IT.due("act: that of BODY", 11, x.trace(0));
        IT.due("act: the old trace is gone", BAD, x.trace(1));
        IT.due("act: other calls leave it", 2, x.taken(2, 1));
        x.days(1);
        x.paid(ONE, 0, 0, 0);
        IT.due("act: still there", 11, x.trace(0));
        IT.due("act: none of it", 0, x.act(DEAR, 4, 3));
        IT.due("act: no trace then", BAD, x.trace(0));
        IT.due("act: none ran", 0, x.count(11));
    }

    private static void settledAndPaidAnew() {
        AcresPaid x = country();
        x.days(365);
        IT.due("back: nothing was settled", 351, x.back(ONE));
        IT.due("back: settled", 351, x.settle(ONE, 0));
        IT.due("back: nothing", 0, x.back(ONE));
        claims(x);
        IT.due("back: the present year is not in it", 0, x.back(ONE));
        IT.due("back: settled ahead of its end", 351, x.settle(ONE, 1));
        x.control(ONE, FIELD, 0, 10);
        IT.due("back: ten squares were missing", 273 - 351, x.back(ONE));
        x.days(365);
        x.control(ONE, MEADOW, 1, 10);
        IT.due("back: of both years", 2 * (273 - 351), x.back(ONE));
        IT.due("back: as known then", 351, x.paid(ONE, 1, 365, 0));
        IT.due("back: settled anew", 273, x.settle(ONE, 0));
        IT.due("back: of year 1", 273 - 351, x.back(ONE));
        IT.due("back: settled too", 273, x.settle(ONE, 1));
        IT.due("back: none again", 0, x.back(ONE));
        x.control(ONE, FIELD, 0, 0);
        IT.due("back: found after all", 351 - 273, x.back(ONE));
        IT.due("back: not yet settled", BAD, x.settle(ONE, 3));
        IT.due("back: of no farm", VOID, x.back(FIELD));
    }

    private static void oneLotForAllDraws() {
        AcresPaid x = new AcresPaid();
        for (int i = 0; i < 5; i++) {
            x.farm(1, i / 4);
        }
        for (int i = 0; i < 5; i++) {
            x.claim(i, Checks.field(x, i, i, i, i + 1, i + 1), 0);
        }
        x.lots(12);
        int z = 12;
        for (int i = 0; i < 20; i++) {
            // two by numbers, one by lot out of the two left
            IT.due("lot: three", 3, x.draw(0, 0, 3));
            z = z * 1103515245 + 12345;
            IT.due("lot: draw " + i, 2 + (z >>> 8) % 2, x.drawn(2));
            x.rate(0, 2, 5010);
            x.draw(0, 0, 10);
            x.draw(1, 0, 9);
            IT.due("lot: one alone needs none", 4, x.drawn(0));
        }
    }

    private static void givenDrawnAndMixedStay() {
        AcresPaid x = country();
        x.least(0);
        x.draw(0, 0, 1);
        x.worth(6, 3);
        x.plot(4);
        x.mix(100, 1);
        for (int i = 0; i < 9; i++) {
            int field = Checks.field(x, i % 2, 20, 20, 21, 21);
            x.days(1);
            x.claim(i % 2, field, 0);
        }
        IT.due("stays: eleven overlap", BIG, x.least(0));
        IT.due("stays: given", OVER, x.given(0));
        IT.due("stays: no second", BAD, x.given(1));
        IT.due("stays: a bad draw", BAD, x.draw(0, 0, 0));
        IT.due("stays: drawn", ONE, x.drawn(0));
        x.plot(1);
        IT.due("stays: no mix", NOT, x.mix(99, 1));
        IT.due("stays: mixed", 6, x.mixed(0));
        IT.due("stays: no area", BAD, x.mix(100, 1));
        IT.due("stays: what a crop is worth", 3, x.worth(6, 0));
    }

    /** The same year asked by turns as known on days ahead and behind: each answer as if it were asked alone. */
    private static void oneYearAskedAsKnownOnManyDays() {
        AcresPaid x = country();
        int[] want = new int[8];
        for (int day = 1; day < 8; day++) {
            x.days(1);
            x.control(ONE, FIELD, 0, day);
        }
        for (int day = 0; day < 8; day++) {
            want[day] = 10 - day;
        }
        for (int i = 0; i < 24; i++) {
            int k = i * 5 % 8;
            IT.due("by turns: as known on " + k, want[k], x.counted(ONE, FIELD, 0, k, 1));
            IT.due("by turns: the names", 10 + want[k], x.named(ONE, 0, k, F));
            IT.due("by turns: a later year", k > 0 ? 1 : 0, x.named(ONE, 1, k, B));
            IT.due("by turns: far ahead", 3, x.counted(ONE, FIELD, 0, 3649, 1));
        }
    }
}
