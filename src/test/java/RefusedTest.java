import java.util.List;
import java.util.function.ToLongFunction;

/** "What is answered so changes nothing": each refusal, on a told country, beside one to which nothing was said. */
public final class RefusedTest {
    private static final int BAD = -1, NOT = -2, VOID = -2000000000, NOTHING = -11, OTHER_KIND = -12, NO_PLACE = -13, NO_SIZE = -14;
    private static final Checks IT = new Checks("refused");
    private static final List<Long> UNTOUCHED = Scene.seen(Scene.told());

    public static void main(String[] args) {
        theSceneSees();
        bodies();
        fields();
        claims();
        colours();
        texts();
        payments();
        picks();
        shelves();
        questions();
        IT.end();
    }

    private static void refused(String call, long want, ToLongFunction<AcresPaid> said) {
        AcresPaid x = Scene.told();
        IT.due(call, want, said.applyAsLong(x));
        List<Long> seen = Scene.seen(x);
        for (int i = 0; i < UNTOUCHED.size(); i++) {
            IT.due(call + ", then answer " + i + " of what is seen", UNTOUCHED.get(i), seen.get(i));
        }
    }

    /** A call that is taken shows in what is seen: else the rest of this test would say nothing. */
    private static void shows(String call, ToLongFunction<AcresPaid> said) {
        AcresPaid x = Scene.told();
        said.applyAsLong(x);
        IT.due(call + " shows", 0, Scene.seen(x).equals(UNTOUCHED) ? 1 : 0);
    }

    private static void theSceneSees() {
        shows("days", x -> x.days(1));
        shows("body", x -> x.body());
        shows("farm", x -> x.farm(1, 3));
        shows("permit", x -> x.permit(1));
        shows("corner", x -> x.corner(1, 1));
        shows("uncorner", x -> x.uncorner());
        shows("giveUp", x -> x.giveUp(9));
        shows("handOver", x -> x.handOver(12, 2, 0));
        shows("claim", x -> x.claim(1, 5, 2));
        shows("close", x -> x.close(3, 1));
        shows("out", x -> x.out(101, 101, 0));
        shows("control", x -> x.control(4, 9, 1, 1));
        shows("majeure", x -> x.majeure(1, 0));
        shows("colour", x -> x.colour(5, 5, 1));
        shows("see", x -> x.see(5, 0, 0, 1));
        shows("blank", x -> x.blank(4));
        shows("feed", x -> x.feed(1, '('));
        shows("text", x -> x.text(0, 0));
        shows("settle", x -> x.settle(3, 0));
        shows("least", x -> x.least(9));
        shows("lots", x -> x.lots(5));
        shows("draw", x -> x.draw(1, 0, 1));
        shows("plot", x -> x.plot(3));
        shows("worth", x -> x.worth(0, 5));
        shows("mix", x -> x.mix(1, 1));
        shows("act", x -> x.act(0, 0, 0));
        shows("a refused act", x -> x.act(-1, 0, 0));
        shows("keep", x -> x.keep(2, -1));
        shows("row", x -> x.row(3, 0, 1));
        shows("put", x -> x.put(0, 1, 1));
        shows("shift", x -> x.shift(0, 0, 0, 1, 1));
    }

    private static void bodies() {
        refused("days(0)", BAD, x -> x.days(0));
        refused("days(366)", BAD, x -> x.days(366));
        refused("days(MAX)", BAD, x -> x.days(Integer.MAX_VALUE));
        refused("farm(0, 0)", BAD, x -> x.farm(0, 0));
        refused("farm(4, 0)", BAD, x -> x.farm(4, 0));
        refused("farm(6, 0)", BAD, x -> x.farm(6, 0));
        refused("farm(8, 0)", BAD, x -> x.farm(8, 0));
        refused("farm(1, -1)", BAD, x -> x.farm(1, -1));
        refused("farm(1, 4)", BAD, x -> x.farm(1, 4));
        refused("permit(0)", BAD, x -> x.permit(0));
        refused("permit(1000)", BAD, x -> x.permit(1000));
        refused("ofBody(14, 0)", VOID, x -> x.ofBody(14, 0));
        refused("handOver(1, 1, 0)", BAD, x -> x.handOver(1, 1, 0));
        refused("handOver(5, 0, 0)", BAD, x -> x.handOver(5, 0, 0));
        refused("handOver(5, 2, -1)", BAD, x -> x.handOver(5, 2, -1));
        refused("handOver(5, 2, 3650)", BAD, x -> x.handOver(5, 2, 3650));
        refused("holder(5, 0, 3650)", BAD, x -> x.holder(5, 0, 3650));
        refused("holder(0, 0, 0)", BAD, x -> x.holder(0, 0, 0));
    }

    private static void fields() {
        refused("corner(25, 0)", BAD, x -> x.corner(25, 0));
        refused("corner(0, -1)", BAD, x -> x.corner(0, -1));
        refused("area()", NOT, x -> x.area());
        refused("field(0, 0)", BAD, x -> x.field(0, 0));
        refused("field(1, 2)", BAD, x -> x.field(1, 2));
        refused("field(1, 0)", NOT, x -> x.field(1, 0));
        refused("field(1, 1)", NOT, x -> x.field(1, 1));
        refused("has(5, 24, 0)", BAD, x -> x.has(5, 24, 0));
        refused("giveUp(1)", BAD, x -> x.giveUp(1));
        refused("giveUp(11)", BAD, x -> x.giveUp(11));
        refused("giveUp(14)", BAD, x -> x.giveUp(14));
        refused("giveUp(10)", NOT, x -> x.giveUp(10));
    }

    private static void claims() {
        refused("claim(0, 5, 0)", BAD, x -> x.claim(0, 5, 0));
        refused("claim(1, 1, 0)", BAD, x -> x.claim(1, 1, 0));
        refused("claim(1, 5, 8)", BAD, x -> x.claim(1, 5, 8));
        refused("claim(1, 5, -1)", BAD, x -> x.claim(1, 5, -1));
        refused("claim(1, 7, 1)", BAD, x -> x.claim(1, 7, 1));
        refused("claim(2, 5, 0)", NOT, x -> x.claim(2, 5, 0));
        refused("claim(4, 10, 6)", NOT, x -> x.claim(4, 10, 6));
        refused("close(4, 0)", BAD, x -> x.close(4, 0));
        refused("close(1, -1)", BAD, x -> x.close(1, -1));
        refused("close(1, 365)", BAD, x -> x.close(1, 365));
        refused("out(100, 0, 0)", BAD, x -> x.out(100, 0, 0));
        refused("out(1, 0, 0)", BAD, x -> x.out(1, 0, 0));
        refused("out(0, 2400, 0)", BAD, x -> x.out(0, 2400, 0));
        refused("out(0, 24, 0)", BAD, x -> x.out(0, 24, 0));
        refused("out(0, 2323, 3650)", BAD, x -> x.out(0, 2323, 3650));
        refused("out(0, 2323, -1)", BAD, x -> x.out(0, 2323, -1));
        refused("counted(1, 5, 0, 400, 5)", BAD, x -> x.counted(1, 5, 0, 400, 5));
        refused("counted(1, 5, 2, 400, 0)", NOT, x -> x.counted(1, 5, 2, 400, 0));
        refused("control(1, 5, 0, 577)", BAD, x -> x.control(1, 5, 0, 577));
        refused("control(1, 5, 0, -1)", BAD, x -> x.control(1, 5, 0, -1));
        refused("control(1, 5, 10, 1)", BAD, x -> x.control(1, 5, 10, 1));
        refused("control(1, 5, 2, 1)", NOT, x -> x.control(1, 5, 2, 1));
        refused("control(2, 5, 0, 1)", NOT, x -> x.control(2, 5, 0, 1));
        refused("control(4, 10, 0, 1)", NOT, x -> x.control(4, 10, 0, 1));
        refused("majeure(0, 0)", BAD, x -> x.majeure(0, 0));
        refused("majeure(1, 10)", BAD, x -> x.majeure(1, 10));
        refused("majeure(3, 0)", NOT, x -> x.majeure(3, 0));
    }

    private static void colours() {
        refused("colour(8, 0, 0)", BAD, x -> x.colour(8, 0, 0));
        refused("colour(2, 6, 0)", BAD, x -> x.colour(2, 6, 0));
        refused("colour(2, 0, 100)", BAD, x -> x.colour(2, 0, 100));
        refused("colour(2, 0, -1)", BAD, x -> x.colour(2, 0, -1));
        refused("see(1, 0, 0, 0)", BAD, x -> x.see(1, 0, 0, 0));
        refused("see(5, 10, 0, 0)", BAD, x -> x.see(5, 10, 0, 0));
        refused("see(5, 0, 6, 0)", BAD, x -> x.see(5, 0, 6, 0));
        refused("see(5, 0, 1, 0)", OTHER_KIND, x -> x.see(5, 0, 1, 0));
        refused("see(5, 0, 2, 0)", OTHER_KIND, x -> x.see(5, 0, 2, 0));
        refused("looks(5, 0, 2)", BAD, x -> x.looks(5, 0, 2));
        refused("looks(5, 1, 0)", NOT, x -> x.looks(5, 1, 0));
    }

    private static void texts() {
        refused("feed(0, 9)", BAD, x -> x.feed(0, 9));
        refused("feed(5, 9)", BAD, x -> x.feed(5, 9));
        refused("text(4, 0)", BAD, x -> x.text(4, 0));
        refused("text(40, 0)", BAD, x -> x.text(40, 0));
        refused("text(0, 10)", BAD, x -> x.text(0, 10));
        refused("text(0, -1)", BAD, x -> x.text(0, -1));
        refused("inForce(4, 0, 0)", BAD, x -> x.inForce(4, 0, 0));
        refused("inForce(1, 0, 0)", NOT, x -> x.inForce(1, 0, 0));
        refused("named(1, 0, 400, 13)", BAD, x -> x.named(1, 0, 400, 13));
        refused("named(0, 0, 400, 0)", BAD, x -> x.named(0, 0, 400, 0));
    }

    private static void payments() {
        refused("paid(1, 0, 400, 7)", VOID, x -> x.paid(1, 0, 400, 7));
        refused("paid(5, 0, 400, 0)", VOID, x -> x.paid(5, 0, 400, 0));
        refused("settle(1, 2)", BAD, x -> x.settle(1, 2));
        refused("settle(1, -1)", BAD, x -> x.settle(1, -1));
        refused("settle(0, 0)", BAD, x -> x.settle(0, 0));
        refused("back(5)", VOID, x -> x.back(5));
        refused("budget(1, 0, -1)", BAD, x -> x.budget(1, 0, -1));
        refused("budget(1, 0, 2000000001)", BAD, x -> x.budget(1, 0, 2000000001));
        refused("budget(5, 0, 1)", BAD, x -> x.budget(5, 0, 1));
    }

    private static void picks() {
        refused("least(10)", BAD, x -> x.least(10));
        refused("least(-1)", BAD, x -> x.least(-1));
        refused("given(1)", BAD, x -> x.given(1));
        refused("draw(4, 1, 2)", BAD, x -> x.draw(4, 1, 2));
        refused("draw(0, 10, 2)", BAD, x -> x.draw(0, 10, 2));
        refused("draw(0, 1, 0)", BAD, x -> x.draw(0, 1, 0));
        refused("draw(0, 1, 10)", BAD, x -> x.draw(0, 1, 10));
        refused("drawn(2)", BAD, x -> x.drawn(2));
        refused("rate(10, 0, 0)", BAD, x -> x.rate(10, 0, 0));
        refused("rate(0, 2, 50)", BAD, x -> x.rate(0, 2, 50));
        refused("plot(0)", BAD, x -> x.plot(0));
        refused("plot(577)", BAD, x -> x.plot(577));
        refused("worth(8, 1)", BAD, x -> x.worth(8, 1));
        refused("worth(3, 100)", BAD, x -> x.worth(3, 100));
        refused("worth(3, -1)", BAD, x -> x.worth(3, -1));
        refused("mix(0, 1)", BAD, x -> x.mix(0, 1));
        refused("mix(101, 1)", BAD, x -> x.mix(101, 1));
        refused("mix(50, 0)", BAD, x -> x.mix(50, 0));
        refused("mix(50, 4)", BAD, x -> x.mix(50, 4));
        refused("mixed(2)", BAD, x -> x.mixed(2));
        refused("tried(1, 0, 0, 0)", BAD, x -> x.tried(1, 0, 0, 0));
        refused("tried(0, 0, 0, 2)", BAD, x -> x.tried(0, 0, 0, 2));
    }

    private static void shelves() {
        refused("trace(8)", BAD, x -> x.trace(8));
        refused("keep(6, 0)", BAD, x -> x.keep(6, 0));
        refused("keep(2, 14)", BAD, x -> x.keep(2, 14));
        refused("keep(2, -2)", BAD, x -> x.keep(2, -2));
        refused("row(6, 0, 1)", BAD, x -> x.row(6, 0, 1));
        refused("row(0, 5, 1)", BAD, x -> x.row(0, 5, 1));
        refused("row(0, 0, 61)", BAD, x -> x.row(0, 0, 61));
        refused("row(0, 0, -1)", NO_SIZE, x -> x.row(0, 0, -1));
        refused("row(2, 0, -1)", NO_SIZE, x -> x.row(2, 0, -1));
        refused("put(6, 0, 1)", BAD, x -> x.put(6, 0, 1));
        refused("put(3, 0, 1)", NOTHING, x -> x.put(3, 0, 1));
        refused("put(2, 0, 1)", OTHER_KIND, x -> x.put(2, 0, 1));
        refused("put(0, 4, 1)", NO_PLACE, x -> x.put(0, 4, 1));
        refused("put(0, -1, 1)", NO_PLACE, x -> x.put(0, -1, 1));
        refused("element(0, 4)", Long.MIN_VALUE, x -> x.element(0, 4));
        refused("shift(6, 0, 0, 0, 1)", BAD, x -> x.shift(6, 0, 0, 0, 1));
        refused("shift(0, 0, 3, 0, 1)", NOTHING, x -> x.shift(0, 0, 3, 0, 1));
        refused("shift(0, 0, 1, 0, 1)", OTHER_KIND, x -> x.shift(0, 0, 1, 0, 1));
        refused("shift(0, 0, 2, 0, 1)", OTHER_KIND, x -> x.shift(0, 0, 2, 0, 1));
        refused("shift(0, 0, 0, 1, 4)", NO_PLACE, x -> x.shift(0, 0, 0, 1, 4));
        refused("shift(0, 3, 0, 0, -1)", NO_PLACE, x -> x.shift(0, 3, 0, 0, -1));
        refused("taken(2, 1)", OTHER_KIND, x -> x.taken(2, 1));
        refused("taken(2, 8)", BAD, x -> x.taken(2, 8));
        refused("count(12)", BAD, x -> x.count(12));
    }

    /** What only asks changes nothing either. */
    private static void questions() {
        refused("ofBody(5, 4)", 1, x -> x.ofBody(5, 4));
        refused("counted as known on day 0", 18, x -> x.counted(1, 5, 0, 0, 0));
        refused("named in year 9", 9, x -> x.named(4, 9, 0, 0));
        refused("paid as known on day 0", 0, x -> x.paid(4, 0, 0, 0));
        refused("tried", 0, x -> x.tried(0, 1, 9, 0));
        refused("rate of none", 0, x -> x.rate(9, 2, 5049));
        refused("budget of nought", 0, x -> x.budget(1, 0, 0));
        refused("back", 0, x -> x.back(4));
        refused("looks", 5, x -> x.looks(5, 0, 0));
        refused("inForce", 1, x -> x.inForce(3, 0, 400));
        refused("taken", 5, x -> x.taken(2, 4));
    }
}
