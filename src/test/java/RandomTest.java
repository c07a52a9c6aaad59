import java.lang.reflect.Method;
import java.util.ArrayDeque;
import java.util.ArrayList;
import java.util.Arrays;
import java.util.Deque;
import java.util.HashMap;
import java.util.List;
import java.util.Map;
import java.util.Random;
import java.util.function.IntSupplier;

/** Runs of calls drawn by lot (the seeds are told, so every run is the same each time), held against the model. */
public final class RandomTest {
    private static final int CALLS = 512;
    private static final int[] EXTREMES = {Integer.MIN_VALUE, Integer.MAX_VALUE, -1, -2, 0, 1, 100, 149, 150, 365, 576, 3649, 3650,
        1 << 30, -2000000000, 2000000000, 2000000001, Integer.MIN_VALUE + 1, Integer.MAX_VALUE - 1};

    private static final String[] PLAUSIBLE = {"s/2+1", "c>1?7;3", "g+t>50", "1", "m>100?100+(m-100)/2;m", "m-l*2;0", "e>2?e*2;b*10", "e>20?100;e>2?30;0",
        "p*k+y", "j?0;e", "999999*999999", "0-5", "m*2", "b>0?50"};

    private static final Map<String, Method> FACE = new HashMap<>();
    private static final Map<String, Method> MODEL = new HashMap<>();

    private record Call(String name, Object[] args) {
        @Override public String toString() { return name + Arrays.toString(args); }
    }

    private final Random random;
    private final Model model = new Model();
    private final AcresPaid program = new AcresPaid();
    private final Deque<Call> due = new ArrayDeque<>();
    private final List<String> done = new ArrayList<>();
    private final int style;

    private RandomTest(long seed) {
        random = new Random(seed);
        style = (int) (seed % 8);
    }

    public static void main(String[] args) throws Exception {
        for (Method m : AcresPaid.class.getDeclaredMethods()) FACE.put(m.getName(), m);
        for (Method m : Model.class.getDeclaredMethods()) MODEL.putIfAbsent(m.getName(), m);
        long from = args.length > 0 ? Long.parseLong(args[0]) : 0;
        long to = args.length > 1 ? Long.parseLong(args[1]) : 160;
        for (long seed = from; seed < to; seed++) {
            if (!new RandomTest(seed).run(seed)) System.exit(1);
        }
        System.out.println("runs " + from + " to " + (to - 1) + ": all answers as the model's");
    }

    private boolean run(long seed) throws Exception {
        build();
        for (int i = 0; i < CALLS; i++) {
            while (due.isEmpty()) propose();
            Call call = due.poll();
            Object got, want;
            try {
                want = MODEL.get(call.name).invoke(model, call.args);
                got = FACE.get(call.name).invoke(program, call.args);
            } catch (ReflectiveOperationException e) {
                System.out.println("seed " + seed + ": " + call + " threw");
                e.printStackTrace(System.out);
                return false;
            }
            done.add(call + " " + want);
            if (!got.equals(want)) {
                System.out.println("seed " + seed + ", call " + i + ": " + call + " answered " + got + ", the model " + want);
                for (String d : done) System.out.println("  " + d);
                return false;
            }
        }
        return true;
    }

    private int below(int n) { return random.nextInt(n); }
    private boolean chance(int hundredths) { return below(100) < hundredths; }

    private void add(String name, Object... args) {
        if (chance(2) && args.length > 0) {
            int at = below(args.length);
            int v = EXTREMES[below(EXTREMES.length)];
            args[at] = args[at] instanceof Long ? (Object) (long) v : (Object) v;
        }
        due.add(new Call(name, args));
    }

    private int pick(IntSupplier any, String what) {
        for (int i = 0; i < 20; i++) {
            int b = any.getAsInt();
            if (what.equals("farm") ? model.isFarm(b) : what.equals("field") ? model.isField(b) : model.isPermit(b)) return b;
        }
        return any.getAsInt();
    }

    private int anyBody() { return chance(2) ? below(152) - 1 : below(Math.max(1, model.bodies.size())); }
    private int aFarm() { return chance(2) ? anyBody() : pick(this::anyBody, "farm"); }
    private int aField() { return chance(2) ? anyBody() : pick(this::anyBody, "field"); }
    private int aPermit() { return pick(this::anyBody, "permit"); }
    private int presentYear() { return model.day / 365; }
    private int aYear() { return chance(70) ? below(presentYear() + 1) : chance(90) ? presentYear() : below(12) - 1; }
    private int aDay() { return chance(60) ? below(model.day + 1) : chance(80) ? model.day : below(3652) - 1; }
    private int known() { return chance(75) ? model.day : aDay(); }

    private void build() {
        int farms = style == 1 ? 12 : 2 + below(4);
        for (int i = 0; i < farms; i++) add("farm", new int[] {1, 2, 3, 7}[below(4)], style == 1 ? 0 : below(2));
        int fields = style == 1 ? 14 : style == 2 ? 3 : 5 + below(5);
        for (int i = 0; i < fields; i++) aRing(below(farms));
        int permits = below(6);
        for (int i = 0; i < permits; i++) {
            add("permit", 1 + below(style == 3 ? 999 : 20));
            if (chance(80)) add("handOver", farms + fields + i, below(farms), below(400));
        }
        if (chance(50)) add("body");
        if (style == 4) for (int i = 0; i < 140; i++) add(i % 30 == 0 ? "body" : "farm", i % 30 == 0 ? new Object[0] : new Object[] {1 + below(3), 0});
    }

    private int size() { return style == 1 ? 24 : style == 2 ? 5 : 10; }

    private void aRing(int farm) {
        int g = size();
        int x = below(g - 1), y = below(g - 1), w = 1 + below(Math.min(6, g - x)), h = 1 + below(Math.min(6, g - y));
        List<int[]> corners = new ArrayList<>();
        if (chance(60) || w < 2 || h < 2) {
            corners.addAll(List.of(new int[] {x, y}, new int[] {x + w, y}, new int[] {x + w, y + h}, new int[] {x, y + h}));
        } else {
            int a = 1 + below(w - 1), b = 1 + below(h - 1);
            corners.addAll(List.of(new int[] {x, y}, new int[] {x + w, y}, new int[] {x + w, y + b}, new int[] {x + a, y + b},
                new int[] {x + a, y + h}, new int[] {x, y + h}));
        }
        if (chance(30)) {
            // the other way round, still across first
            List<int[]> turned = new ArrayList<>();
            for (int i = corners.size(); i > 0; i--) turned.add(corners.get((i + 1) % corners.size()));
            corners = turned;
        }
        if (chance(10)) corners.get(below(corners.size()))[below(2)] = below(25);
        if (chance(3)) corners.remove(0);
        add("uncorner");
        for (int[] c : corners) add("corner", c[0], c[1]);
        if (chance(20)) add("area");
        add("field", farm, chance(25) ? 1 : 0);
    }

    private void aWalk() {
        int x = below(6), y = below(6);
        int n = 2 * (2 + below(5));
        for (int i = 0; i < n; i++) {
            add("corner", x, y);
            if (i % 2 == 0) x = below(7); else y = below(7);
        }
        add("area");
        add("uncorner");
    }

    private String operand(int depth) {
        int what = below(depth > 3 ? 2 : 7);
        if (what == 0) return String.valueOf(chance(80) ? below(200) : below(1000000));
        if (what == 1 || what == 6) return String.valueOf("yksfgctlepmjb".charAt(below(13)));
        if (what == 2) return "!" + operand(depth + 1);
        if (what == 3) return "-" + operand(depth + 1);
        if (what == 4) return "(" + expression(depth + 1) + ")";
        return "m";
    }

    private String expression(int depth) {
        StringBuilder e = new StringBuilder(operand(depth));
        int n = below(3);
        boolean compared = false;
        for (int i = 0; i < n; i++) {
            char sign = "+-*/%+-*/<=>&|".charAt(below(14));
            if ("<=>".indexOf(sign) >= 0) {
                if (compared && chance(95)) sign = '+';
                compared = true;
            }
            if ("&|".indexOf(sign) >= 0) compared = false;
            e.append(sign).append(operand(depth));
        }
        return e.toString();
    }

    private void aText() {
        StringBuilder t = new StringBuilder();
        int lines = 1 + below(3);
        for (int i = 0; i < lines; i++) {
            if (i > 0) t.append(';');
            if (chance(60)) t.append(expression(0)).append('?');
            t.append(expression(0));
        }
        if (chance(25)) t = new StringBuilder(PLAUSIBLE[below(PLAUSIBLE.length)]);
        if (chance(15)) t.setCharAt(below(t.length()), (char) (chance(80) ? "yksfgctlepmjb01(!-)+;?&|<=>z ".charAt(below(29)) : below(256)));
        if (chance(5)) t.setLength(below(t.length() + 1));
        if (chance(5)) t = new StringBuilder("-".repeat(below(6))).append("!(".repeat(below(3))).append(t);
        for (int i = 0; i < t.length(); ) {
            int n = Math.min(1 + below(4), t.length() - i);
            int v = chance(50) ? below(1 << 30) << 8 * n % 32 : 0;
            if (n == 4) v = 0;
            for (int j = 0; j < n; j++) v |= t.charAt(i + j) << 8 * j;
            add("feed", n, v);
            i += n;
        }
        add("text", 10 * below(2) + below(4), chance(80) ? 0 : below(10));
    }

    private void propose() {
        switch (below(46)) {
            case 0: case 1: case 2: case 3: case 4: case 5: aClaim(); break;
            case 6: add("days", style == 5 ? 300 + below(66) : 1 + below(chance(50) ? 20 : 200)); break;
            case 7: add("handOver", chance(60) ? aPermit() : aField(), aFarm(), aDay()); break;
            case 8: add("handOver", aPermit(), aFarm(), aDay()); break;
            case 9: add("holder", anyBody(), aDay(), aDay()); break;
            case 10: anOut(); break;
            case 11: case 12: case 13: aCounted(); break;
            case 14: case 15: aControl(); break;
            case 16: add("majeure", aFarm(), aYear()); break;
            case 17: add("colour", below(8), below(6), below(chance(50) ? 100 : 12)); break;
            case 18: aSight(); break;
            case 19: add("blank", below(6) - 2); break;
            case 20: case 21: add("looks", aField(), aYear(), below(2)); break;
            case 22: aText(); break;
            case 23: add("inForce", 10 * below(2) + below(4), aYear(), known()); break;
            case 24: case 25: case 26: add("named", aFarm(), aYear(), known(), below(13)); break;
            case 27: case 28: case 29: add("paid", aFarm(), aYear(), known(), below(7)); break;
            case 30: add("settle", aFarm(), aYear()); break;
            case 31: add("back", aFarm()); break;
            case 32: add("budget", aFarm(), aYear(), below(chance(50) ? 100 : 10000)); break;
            case 33: case 34: add("least", aYear()); add("given", below(4)); break;
            case 35: if (chance(30)) add("lots", random.nextInt()); aDraw(); break;
            case 36: add("rate", aYear(), below(3), 100 * (1 + below(99)) + 1 + below(49)); break;
            case 37: aMix(); break;
            case 38: case 39: add("tried", aRate(), below(2), aYear(), below(2)); break;
            case 40: add("act", anyBody(), below(4), random.nextInt()); add("trace", below(26)); add("count", 11); break;
            case 41: case 42: aShelf(); break;
            case 43: odd(); break;
            case 44: if (style == 2) aWalk(); else aRing(aFarm()); break;
            default: add("count", below(14) - 1); break;
        }
    }

    private int aRate() {
        int text = below(Math.max(1, model.texts.size()));
        for (int i = 0; i < 10 && text < model.texts.size() && model.texts.get(text).what() % 10 != 0; i++) {
            text = below(model.texts.size());
        }
        return text;
    }

    private void aSight() {
        int shelf = below(6);
        if (chance(60)) {
            int n = 1 + below(9);
            add("row", shelf, 0, n);
            for (int i = 0; i < n; i++) if (chance(70)) add("put", shelf, i, chance(20) ? (long) model.blank : (long) below(40) - 5);
        }
        int field = aField(), year = aYear();
        add("see", field, year, shelf, chance(60) ? 0 : below(9) - 1);
        add("looks", field, year, below(2));
    }

    private void aClaim() {
        int field = aField();
        int holder = model.isField(field) && chance(85) ? model.held(field, model.day, model.day) : aFarm();
        boolean meadow = model.isField(field) && model.bodies.get(field) instanceof Model.Meadow;
        if (chance(4) && model.isField(field)) add("handOver", field, aFarm(), aDay());
        add("claim", holder, field, meadow && chance(97) ? 0 : below(8));
    }

    private Model.Claim oldClaim() {
        return model.claims.isEmpty() ? new Model.Claim(0, 0, 0, 0) : model.claims.get(below(model.claims.size()));
    }

    private void aCounted() {
        Model.Claim c = oldClaim();
        boolean like = chance(90);
        add("counted", like ? c.farm() : aFarm(), like ? c.field() : aField(), chance(90) ? c.on() / 365 : aYear(), known(), below(5));
    }

    private void aControl() {
        Model.Claim c = oldClaim();
        add("control", c.farm(), c.field(), c.on() / 365, chance(80) ? below(6) : below(577));
    }

    private void anOut() {
        int x = below(size()), y = below(size());
        add("out", 100 * x + y, 100 * Math.min(23, x + below(3)) + Math.min(24, y + below(3)), chance(70) ? below(model.day + 1) : aDay());
        if (chance(5)) add("giveUp", aField());
    }

    private void aDraw() {
        add("draw", below(2), chance(50) ? presentYear() : aYear(), 1 + below(9));
        for (int i = below(4); i >= 0; i--) add("drawn", below(9));
    }

    private void aMix() {
        for (int i = below(4); i >= 0; i--) add("worth", below(8), below(chance(50) ? 100 : 4));
        int n = chance(20) ? 6 : 1 + below(4);
        int greatest = chance(50) ? 20 : 576;
        for (int i = 0; i < n; i++) add("plot", 1 + below(greatest));
        add("mix", chance(50) ? 20 + below(40) : 1 + below(100), 1 + below(3));
        for (int i = 0; i < n; i++) add("mixed", i);
    }

    private void aShelf() {
        int shelf = below(6);
        switch (below(9)) {
            case 0: add("keep", shelf, chance(20) ? -1 : anyBody()); break;
            case 1: add("row", shelf, chance(50) ? 0 : below(5), chance(90) ? below(10) : below(66) - 3); break;
            case 2: case 3: case 4: add("put", shelf, below(8) - 1, chance(50) ? random.nextLong() : (long) below(40) - 5); break;
            case 5: case 6: add("element", shelf, below(8) - 1); break;
            case 7: add("shift", shelf, below(6) - 1, chance(50) ? shelf : below(6), below(6), below(6) - 1); break;
            default: add("taken", shelf, below(8)); break;
        }
    }

    private void odd() {
        switch (below(8)) {
            case 0: add("ofBody", anyBody(), below(6)); break;
            case 1: add("has", aField(), below(size() + 1), below(size())); break;
            case 2: add("close", below(3), below(365)); break;
            case 3: add("giveUp", aField()); break;
            case 4: add("permit", below(1000)); break;
            case 5: add("farm", 1 + below(3), below(4)); break;
            case 6: add("corner", below(6), below(6)); break;
            default: add("ofBody", aField(), below(6)); break;
        }
    }
}
