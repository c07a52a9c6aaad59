import java.math.BigInteger;
import java.util.ArrayList;
import java.util.Arrays;
import java.util.HashMap;
import java.util.HashSet;
import java.util.LinkedHashMap;
import java.util.List;
import java.util.Map;
import java.util.Set;
import java.util.TreeMap;

/**
 * The document a second time, in its slowest and plainest form: sets of squares, lists of all that was told, nothing
 * kept that can be worked out. RandomTest holds the program against it.
 */
final class Model {
    static final int BAD = -1, NOT = -2, FULL = -3, BIG = -4, VOID = -2000000000;

    record Hand(int body, int farm, int from, int on) {}
    record Claim(int farm, int field, int crop, int on) {}
    record Out(int x0, int y0, int x1, int y1, int from, int on) {}
    record Control(int farm, int field, int year, int missing, int on) {}
    record Text(int what, int year, int on, String tape) {}
    record Corner(int x, int y) {}

    // ---- bodies, as classes, so that Java itself finds the acts

    static final List<Integer> TRACE = new ArrayList<>();

    interface Yields {
        int n();
        default int yields(int x) { TRACE.add(1); return x * 2 - n(); }
    }
    interface Tells {
        int holds(int x);
        int claims(int x);
        default int tells(int x) { TRACE.add(2); return holds(claims(x)); }
    }
    static class Body implements Yields, Tells {
        int number, kind;
        public int n() { return number; }
        public int claims(int x) { TRACE.add(10); return yields(x) + 1; }
        public int holds(int x) { TRACE.add(11); return x ^ number; }
    }
    static class Farm extends Body {
        int land;
        @Override public int yields(int x) { TRACE.add(20); return super.yields(x) + land; }
    }
    static class Young extends Farm {
        @Override public int claims(int x) { TRACE.add(30); return super.claims(x) * 2; }
    }
    static class Small extends Farm {
        @Override public int yields(int x) { TRACE.add(40); return -super.yields(x); }
        @Override public int tells(int x) { TRACE.add(41); return super.tells(x) + yields(1); }
    }
    static class Heir extends Young {
        @Override public int yields(int x) { TRACE.add(80); return super.yields(x) ^ 3; }
        @Override public int claims(int x) { TRACE.add(81); return super.claims(x) + super.yields(x); }
    }
    static class Field extends Body {
        int area, told, gone = -1, farm;
        Set<Integer> squares;
        @Override public int holds(int x) { TRACE.add(50); return super.holds(x) + area; }
    }
    static class Meadow extends Field {
        @Override public int claims(int x) { TRACE.add(60); return super.claims(x) - holds(2); }
    }
    static class Permit extends Body {
        int value;
        @Override public int tells(int x) { TRACE.add(70); return super.tells(x + 1); }
    }

    int day, z, blank = -1;
    final List<Body> bodies = new ArrayList<>();
    final List<Corner> ring = new ArrayList<>();
    final List<Hand> hands = new ArrayList<>();
    final List<Claim> claims = new ArrayList<>();
    final List<Out> outs = new ArrayList<>();
    final List<Control> controls = new ArrayList<>();
    final List<Text> texts = new ArrayList<>();
    final Map<List<Integer>, Integer> majeure = new HashMap<>();
    final Map<List<Integer>, Integer> settled = new HashMap<>();
    final Map<List<Integer>, Integer[]> seen = new HashMap<>();
    final int[] closes = {135, 135, 135, 135};
    final int[][] colours = new int[8][6];
    String tape = "";
    List<Integer> given = new ArrayList<>(), drawn = new ArrayList<>(), plots = new ArrayList<>(), mixed = new ArrayList<>();
    List<Integer> trace = new ArrayList<>();
    final int[] worth = new int[8];
    final Object[] shelves = new Object[6];

    boolean in(long v, long a, long b) { return v >= a && v <= b; }
    boolean isBody(int b) { return in(b, 0, bodies.size() - 1); }
    boolean isFarm(int b) { return isBody(b) && bodies.get(b) instanceof Farm; }
    boolean isField(int b) { return isBody(b) && bodies.get(b) instanceof Field; }
    boolean isPermit(int b) { return isBody(b) && bodies.get(b) instanceof Permit; }
    Farm farmAt(int b) { return (Farm) bodies.get(b); }
    Field fieldAt(int b) { return (Field) bodies.get(b); }
    boolean badYear(int y) { return !in(y, 0, 9); }
    boolean badDay(int d) { return !in(d, 0, 3649); }

    int join(Body b, int kind) {
        b.number = bodies.size();
        b.kind = kind;
        bodies.add(b);
        return b.number;
    }

    int days(int n) {
        if (!in(n, 1, 365) || day + n > 3649) return BAD;
        return day += n;
    }

    int body() { return bodies.size() == 150 ? FULL : join(new Body(), 0); }

    int farm(int kind, int land) {
        if (kind != 1 && kind != 2 && kind != 3 && kind != 7 || !in(land, 0, 3)) return BAD;
        if (bodies.size() == 150) return FULL;
        Farm f = kind == 1 ? new Farm() : kind == 2 ? new Young() : kind == 3 ? new Small() : new Heir();
        f.land = land;
        return join(f, kind);
    }

    int corner(int x, int y) {
        if (!in(x, 0, 24) || !in(y, 0, 24)) return BAD;
        if (ring.size() == 12) return FULL;
        ring.add(new Corner(x, y));
        return ring.size();
    }

    int uncorner() {
        int had = ring.size();
        ring.clear();
        return had;
    }

    /** The points of the grid that a side has, its first corner first. */
    List<Corner> points(Corner a, Corner b) {
        List<Corner> points = new ArrayList<>();
        int dx = Integer.signum(b.x - a.x), dy = Integer.signum(b.y - a.y);
        for (int x = a.x, y = a.y; ; x += dx, y += dy) {
            points.add(new Corner(x, y));
            if (x == b.x && y == b.y) return points;
        }
    }

    boolean sound() {
        int n = ring.size();
        if (n < 4 || n % 2 == 1) return false;
        List<List<Corner>> sides = new ArrayList<>();
        for (int i = 0; i < n; i++) {
            Corner a = ring.get(i), b = ring.get((i + 1) % n);
            if (i % 2 == 0 && (a.y != b.y || a.x == b.x)) return false;
            if (i % 2 == 1 && (a.x != b.x || a.y == b.y)) return false;
            sides.add(points(a, b));
        }
        for (int i = 0; i < n; i++)
            for (int j = 0; j < n; j++) {
                if (i == j) continue;
                Set<Corner> common = new HashSet<>(sides.get(i));
                common.retainAll(sides.get(j));
                if (j == (i + 1) % n) common.remove(ring.get(j));
                if (i == (j + 1) % n) common.remove(ring.get(i));
                if (!common.isEmpty()) return false;
            }
        return true;
    }

    /** The squares inside: from each, sides that lie above it are crossed an odd number of times. */
    Set<Integer> inside() {
        Set<Integer> squares = new HashSet<>();
        for (int x = 0; x < 24; x++)
            for (int y = 0; y < 24; y++) {
                int crossed = 0;
                for (int i = 0; i < ring.size(); i += 2) {
                    Corner a = ring.get(i), b = ring.get((i + 1) % ring.size());
                    boolean over = Math.min(a.x, b.x) <= x && x + 1 <= Math.max(a.x, b.x);
                    if (over && a.y > y) crossed++;
                }
                if (crossed % 2 == 1) squares.add(x * 100 + y);
            }
        return squares;
    }

    int area() { return sound() ? inside().size() : NOT; }

    int field(int farm, int meadow) {
        if (!isFarm(farm) || !in(meadow, 0, 1)) return BAD;
        if (!sound()) return NOT;
        if (bodies.size() == 150) return FULL;
        Field f = meadow == 1 ? new Meadow() : new Field();
        f.squares = inside();
        f.area = f.squares.size();
        f.farm = farm;
        f.told = day;
        ring.clear();
        return join(f, 4 + meadow);
    }

    int permit(int value) {
        if (!in(value, 1, 999)) return BAD;
        if (bodies.size() == 150) return FULL;
        Permit p = new Permit();
        p.value = value;
        return join(p, 6);
    }

    int ofBody(int body, int what) {
        if (!isBody(body)) return VOID;
        if (what == 0) return bodies.get(body).kind;
        if (isFarm(body)) return what == 1 ? farmAt(body).land : VOID;
        if (isField(body)) {
            Field f = fieldAt(body);
            return what == 1 ? f.area : what == 2 ? f.told : what == 3 ? f.gone : what == 4 ? held(body, day, day) : VOID;
        }
        if (isPermit(body)) return what == 1 ? ((Permit) bodies.get(body)).value : what == 4 ? held(body, day, day) : VOID;
        return VOID;
    }

    int has(int field, int x, int y) {
        if (!isField(field) || !in(x, 0, 23) || !in(y, 0, 23)) return BAD;
        return fieldAt(field).squares.contains(x * 100 + y) ? 1 : 0;
    }

    int giveUp(int field) {
        if (!isField(field)) return BAD;
        if (fieldAt(field).gone != -1) return NOT;
        fieldAt(field).gone = day;
        return 1;
    }

    int handOver(int body, int farm, int from) {
        if (!isField(body) && !isPermit(body) || !isFarm(farm) || badDay(from)) return BAD;
        if (hands.size() == 200) return FULL;
        hands.add(new Hand(body, farm, from, day));
        return hands.size();
    }

    /** -1: nobody. */
    int held(int body, int on, int k) {
        TreeMap<Integer, Integer> byDay = new TreeMap<>();
        for (Hand h : hands) if (h.body == body && h.on <= k && h.from <= on) byDay.put(h.from, h.farm);
        if (!byDay.isEmpty()) return byDay.lastEntry().getValue();
        return isField(body) ? fieldAt(body).farm : -1;
    }

    int holder(int body, int on, int k) {
        if (!isField(body) && !isPermit(body) || badDay(on) || badDay(k)) return BAD;
        int farm = held(body, on, k);
        return farm == -1 ? NOT : farm;
    }

    int claim(int farm, int field, int crop) {
        if (!isFarm(farm) || !isField(field) || !in(crop, 0, 7)) return BAD;
        if (bodies.get(field) instanceof Meadow && crop != 0) return BAD;
        if (held(field, day, day) != farm || fieldAt(field).gone != -1) return NOT;
        if (claims.size() == 300) return FULL;
        claims.add(new Claim(farm, field, crop, day));
        return claims.size();
    }

    int close(int land, int v) {
        if (!in(land, 0, 3) || !in(v, 0, 364)) return BAD;
        int was = closes[land];
        closes[land] = v;
        return was;
    }

    int out(int a, int b, int from) {
        if (a < 0 || b < 0 || badDay(from)) return BAD;
        int x0 = a / 100, y0 = a % 100, x1 = b / 100, y1 = b % 100;
        if (!in(x0, 0, 23) || !in(y0, 0, 23) || !in(x1, 0, 23) || !in(y1, 0, 23) || x0 > x1 || y0 > y1) return BAD;
        if (outs.size() == 40) return FULL;
        outs.add(new Out(x0, y0, x1, y1, from, day));
        return outs.size();
    }

    /** The claims that count, by farm and field, with their place among all claims. */
    Map<List<Integer>, Integer> counting(int year, int k) {
        Map<List<Integer>, Integer> last = new LinkedHashMap<>();
        for (int i = 0; i < claims.size(); i++) {
            Claim c = claims.get(i);
            if (c.on / 365 != year || c.on > k) continue;
            int gone = fieldAt(c.field).gone;
            if (gone != -1 && gone <= k) continue;
            last.put(List.of(c.farm, c.field), i);
        }
        return last;
    }

    Set<Integer> faults(Map<List<Integer>, Integer> counting) {
        Map<Integer, Set<Integer>> farms = new HashMap<>();
        for (List<Integer> key : counting.keySet())
            for (int s : fieldAt(key.get(1)).squares) farms.computeIfAbsent(s, t -> new HashSet<>()).add(key.get(0));
        Set<Integer> faults = new HashSet<>();
        for (Map.Entry<Integer, Set<Integer>> e : farms.entrySet()) if (e.getValue().size() > 1) faults.add(e.getKey());
        return faults;
    }

    boolean isOut(int square, int year, int k) {
        for (Out o : outs)
            if (o.on <= k && 365 * year >= o.from && in(square / 100, o.x0, o.x1) && in(square % 100, o.y0, o.y1)) return true;
        return false;
    }

    int countedOf(int farm, int field, int year, int k, Map<List<Integer>, Integer> counting, Set<Integer> faults) {
        int n = 0;
        for (int s : fieldAt(field).squares) {
            boolean lesser = false;
            for (List<Integer> key : counting.keySet())
                lesser |= key.get(0) == farm && key.get(1) < field && fieldAt(key.get(1)).squares.contains(s);
            if (!lesser && !faults.contains(s) && !isOut(s, year, k)) n++;
        }
        return n;
    }

    int foundOf(int farm, int field, int year, int k, int counted) {
        int missing = 0;
        for (Control c : controls) if (c.farm == farm && c.field == field && c.year == year && c.on <= k) missing = c.missing;
        return Math.max(0, counted - missing);
    }

    int late(int claim) {
        Claim c = claims.get(claim);
        return Math.max(0, c.on % 365 - closes[farmAt(c.farm).land]);
    }

    int counted(int farm, int field, int year, int k, int what) {
        if (!isFarm(farm) || !isField(field) || badYear(year) || badDay(k) || !in(what, 0, 4)) return BAD;
        Map<List<Integer>, Integer> counting = counting(year, k);
        Integer claim = counting.get(List.of(farm, field));
        if (claim == null) return NOT;
        Set<Integer> faults = faults(counting);
        int counted = countedOf(farm, field, year, k, counting, faults);
        if (what == 0) return counted;
        if (what == 1) return foundOf(farm, field, year, k, counted);
        if (what == 2) return claims.get(claim).crop;
        if (what == 4) return late(claim);
        Set<Integer> common = new HashSet<>(fieldAt(field).squares);
        common.retainAll(faults);
        return common.size();
    }

    int control(int farm, int field, int year, int missing) {
        if (!isFarm(farm) || !isField(field) || badYear(year) || !in(missing, 0, 576)) return BAD;
        if (!counting(year, day).containsKey(List.of(farm, field))) return NOT;
        if (controls.size() == 200) return FULL;
        controls.add(new Control(farm, field, year, missing, day));
        return controls.size();
    }

    int majeure(int farm, int year) {
        if (!isFarm(farm) || badYear(year)) return BAD;
        return majeure.putIfAbsent(List.of(farm, year), day) == null ? 1 : NOT;
    }

    // ---- colours

    int colour(int crop, int week, int v) {
        if (!in(crop, 0, 7) || !in(week, 0, 5) || !in(v, 0, 99)) return BAD;
        int was = colours[crop][week];
        colours[crop][week] = v;
        return was;
    }

    int see(int field, int year, int shelf, int i) {
        if (!isField(field) || badYear(year) || !in(shelf, 0, 5)) return BAD;
        Object held = shelves[shelf];
        if (held != null && !(held instanceof byte[])) return -12;
        Integer[] weeks = new Integer[6];
        int n = 0;
        if (held != null)
            for (int w = 0; w < 6; w++) {
                long at = (long) i + w;
                if (at < 0 || at >= ((byte[]) held).length) break;
                int v = ((byte[]) held)[(int) at];
                if (v != blank) {
                    weeks[w] = v;
                    n++;
                }
            }
        seen.put(List.of(field, year), weeks);
        return n;
    }

    int blank(int v) {
        int was = blank;
        blank = v;
        return was;
    }

    int looks(int field, int year, int what) {
        if (!isField(field) || badYear(year) || !in(what, 0, 1)) return BAD;
        Integer[] weeks = seen.get(List.of(field, year));
        if (weeks == null || Arrays.stream(weeks).allMatch(v -> v == null)) return NOT;
        List<int[]> apart = new ArrayList<>();
        for (int c = 0; c < 8; c++) {
            int sum = 0;
            for (int w = 0; w < 6; w++) if (weeks[w] != null) sum += Math.abs(weeks[w] - colours[c][w]);
            apart.add(new int[] {sum, c});
        }
        apart.sort((a, b) -> a[0] != b[0] ? a[0] - b[0] : a[1] - b[1]);
        return what == 0 ? apart.get(0)[1] : apart.get(1)[0] - apart.get(0)[0];
    }

    // ---- texts

    int feed(int n, int v) {
        if (!in(n, 1, 4)) return BAD;
        if (tape.length() + n > 160) return FULL;
        for (int i = 0; i < n; i++) tape += (char) (v >>> 8 * i & 255);
        return tape.length();
    }

    int text(int what, int year) {
        if (!in(what, 0, 33) || what % 10 > 3 || badYear(year)) return BAD;
        if (texts.size() == 16) return FULL;
        int fault = TextModel.fault(tape);
        if (fault < 0) texts.add(new Text(what, year, day, tape));
        tape = "";
        return fault < 0 ? texts.size() - 1 : -100 - fault;
    }

    int standing(int what, int year, int k) {
        int best = -1;
        for (int i = 0; i < texts.size(); i++) {
            Text t = texts.get(i);
            if (t.what == what && t.year <= year && t.on <= k) best = i;
        }
        return best;
    }

    int inForce(int what, int year, int k) {
        if (!in(what, 0, 33) || what % 10 > 3 || badYear(year) || badDay(k)) return BAD;
        int text = standing(what, year, k);
        return text < 0 ? NOT : text;
    }

    int[] sAndF(int farm, int year, int k) {
        Map<List<Integer>, Integer> counting = counting(year, k);
        Set<Integer> faults = faults(counting);
        int s = 0, f = 0, meadow = 0, last = -1;
        int[] crops = new int[8];
        for (List<Integer> key : counting.keySet()) {
            if (key.get(0) != farm) continue;
            int claim = counting.get(key);
            int n = countedOf(farm, key.get(1), year, k, counting, faults);
            s += n;
            f += foundOf(farm, key.get(1), year, k, n);
            crops[claims.get(claim).crop] += n;
            if (bodies.get(key.get(1)) instanceof Meadow) meadow += n;
            last = Math.max(last, claim);
        }
        int grown = 0;
        for (int c : crops) if (c > 0) grown++;
        return new int[] {s, f, meadow, grown, Arrays.stream(crops).max().getAsInt(), last};
    }

    int error(int s, int f) { return f == 0 ? s == 0 ? 0 : 999 : Math.min(999, 100 * (s - f) / f); }

    int errorOf(int farm, int year, int k) {
        int[] of = sAndF(farm, year, k);
        return error(of[0], of[1]);
    }

    List<Permit> permitsOf(int farm, int year, int k) {
        List<Permit> permits = new ArrayList<>();
        for (Body b : bodies) if (b instanceof Permit p && held(b.number, year * 365 + 364, k) == farm) permits.add(p);
        permits.sort((a, b) -> b.value - a.value);
        return permits;
    }

    int[] names(int farm, int year, int k) {
        int[] of = sAndF(farm, year, k);
        int s = of[0], f = of[1];
        Integer proved = majeure.get(List.of(farm, year));
        int before = 0;
        for (int y = 0; y < year; y++) {
            int[] then = sAndF(farm, y, k);
            if (then[0] > then[1]) before++;
        }
        return new int[] {year, bodies.get(farm).kind, s, f, s == 0 ? 0 : 100 * of[2] / s, of[3], s == 0 ? 0 : 100 * of[4] / s,
            of[5] < 0 ? 0 : late(of[5]), error(s, f), permitsOf(farm, year, k).size(), 0, proved != null && proved <= k ? 1 : 0, before};
    }

    int named(int farm, int year, int k, int name) {
        if (!isFarm(farm) || badYear(year) || badDay(k) || !in(name, 0, 12)) return BAD;
        return names(farm, year, k)[name];
    }

    // ---- payments

    long hold(long v) { return Math.max(0, Math.min(2000000000L, v)); }

    /** all, the five steps, the line of FINE; rate -1: the text in force. */
    int[] pays(int farm, int year, int k, int rate) {
        int[] names = names(farm, year, k);
        int land = farmAt(farm).land;
        int text = rate >= 0 ? rate : standing(land * 10, year, k);
        long each = text < 0 ? 1 : TextModel.say(texts.get(text).tape, names)[0];
        long sum = 0;
        int left = names[3];
        for (Permit p : permitsOf(farm, year, k))
            for (int i = 0; i < 10 && left > 0; i++, left--) sum += each + p.value;
        int[] steps = new int[7];
        steps[1] = (int) (sum = hold(sum));
        text = standing(land * 10 + 1, year, k);
        if (text < 0 || TextModel.say(texts.get(text).tape, names)[0] != 0) sum = hold(sum + sum * 3 / 10);
        steps[2] = (int) sum;
        text = standing(land * 10 + 2, year, k);
        names[10] = (int) sum;
        if (text >= 0) sum = Math.max(0, Math.min(sum, TextModel.say(texts.get(text).tape, names)[0]));
        names[10] = 0;
        steps[3] = (int) sum;
        text = standing(land * 10 + 3, year, k);
        steps[6] = -1;
        if (text >= 0) {
            int[] said = TextModel.say(texts.get(text).tape, names);
            steps[6] = said[1];
            long fine = Math.max(0, Math.min(100, said[0]));
            long away = sum * fine / 100 + (sum * fine % 100 == 0 ? 0 : 1);
            if (names[11] == 0) sum -= away;
        }
        steps[4] = (int) sum;
        sum -= names[7] >= 100 ? sum : sum * names[7] / 100;
        steps[5] = steps[0] = (int) sum;
        return steps;
    }

    int paid(int farm, int year, int k, int what) {
        if (!isFarm(farm) || badYear(year) || badDay(k) || !in(what, 0, 6)) return VOID;
        return pays(farm, year, k, -1)[what];
    }

    int settle(int farm, int year) {
        if (!isFarm(farm) || badYear(year) || year > day / 365) return BAD;
        int all = pays(farm, year, day, -1)[0];
        settled.put(List.of(farm, year), all);
        return all;
    }

    int back(int farm) {
        if (!isFarm(farm)) return VOID;
        long sum = 0;
        for (int y = 0; y < day / 365; y++) sum += pays(farm, y, day, -1)[0] - settled.getOrDefault(List.of(farm, y), 0);
        return (int) Math.max(-1999999999L, Math.min(2000000000L, sum));
    }

    int budget(int farm, int year, int v) {
        if (!isFarm(farm) || badYear(year) || !in(v, 0, 2000000000)) return BAD;
        List<Integer> farms = new ArrayList<>();
        Map<Integer, BigInteger> due = new HashMap<>();
        BigInteger all = BigInteger.ZERO;
        for (Body b : bodies)
            if (b instanceof Farm f && f.land == farmAt(farm).land) {
                farms.add(b.number);
                due.put(b.number, BigInteger.valueOf(pays(b.number, year, day, -1)[0]));
                all = all.add(due.get(b.number));
            }
        BigInteger budget = BigInteger.valueOf(v);
        if (all.compareTo(budget) <= 0) return due.get(farm).intValue();
        Map<Integer, BigInteger[]> parts = new HashMap<>();
        BigInteger left = budget;
        for (int f : farms) {
            parts.put(f, due.get(f).multiply(budget).divideAndRemainder(all));
            left = left.subtract(parts.get(f)[0]);
        }
        farms.sort((a, b) -> {
            int rest = parts.get(b)[1].compareTo(parts.get(a)[1]);
            return rest != 0 ? rest : a - b;
        });
        return parts.get(farm)[0].intValue() + (farms.indexOf(farm) < left.intValue() ? 1 : 0);
    }

    // ---- giving up, controls, mixes

    int least(int year) {
        if (badYear(year)) return BAD;
        Map<List<Integer>, Integer> counting = counting(year, day);
        Set<Integer> torn = new HashSet<>();
        for (List<Integer> a : counting.keySet())
            for (List<Integer> b : counting.keySet()) {
                Set<Integer> common = new HashSet<>(fieldAt(a.get(1)).squares);
                common.retainAll(fieldAt(b.get(1)).squares);
                if (!a.get(0).equals(b.get(0)) && !common.isEmpty()) torn.add(a.get(1));
            }
        List<Integer> fields = new ArrayList<>(torn);
        fields.sort(null);
        if (fields.size() > 10) return BIG;
        int best = -1, bestArea = 0;
        for (int set = 0; set < 1 << fields.size(); set++) {
            Map<List<Integer>, Integer> rest = new HashMap<>(counting);
            int area = 0;
            for (int i = 0; i < fields.size(); i++)
                if ((set >> i & 1) == 1) {
                    int field = fields.get(i);
                    area += fieldAt(field).area;
                    rest.keySet().removeIf(key -> key.get(1) == field);
                }
            boolean less = best < 0 || area < bestArea || area == bestArea && Integer.bitCount(set) < Integer.bitCount(best);
            if (less && faults(rest).isEmpty()) {
                best = set;
                bestArea = area;
            }
        }
        given = new ArrayList<>();
        for (int i = 0; i < fields.size(); i++) if ((best >> i & 1) == 1) given.add(fields.get(i));
        return bestArea;
    }

    int at(List<Integer> list, int i) { return in(i, 0, list.size() - 1) ? list.get(i) : BAD; }
    int given(int i) { return at(given, i); }
    int drawn(int i) { return at(drawn, i); }
    int mixed(int i) { return at(mixed, i); }
    int trace(int i) { return i < 24 ? at(trace, i) : BAD; }

    int lots(int v) {
        z = v;
        return 1;
    }

    int draw(int land, int year, int n) {
        if (!in(land, 0, 3) || badYear(year) || !in(n, 1, 9)) return BAD;
        List<Integer> farms = new ArrayList<>();
        for (List<Integer> key : counting(year, day).keySet())
            if (farmAt(key.get(0)).land == land && !farms.contains(key.get(0))) farms.add(key.get(0));
        farms.sort(null);
        int many = Math.min(n, farms.size());
        int half = many / 2 + many % 2;
        Map<Integer, Integer> risk = new HashMap<>();
        for (int f : farms) risk.put(f, year == 0 ? 0 : errorOf(f, year - 1, day));
        List<Integer> byRisk = new ArrayList<>(farms);
        byRisk.sort((a, b) -> !risk.get(a).equals(risk.get(b)) ? risk.get(b) - risk.get(a) : a - b);
        drawn = new ArrayList<>(byRisk.subList(0, half));
        farms.removeAll(drawn);
        while (drawn.size() < many) {
            z = z * 1103515245 + 12345;
            drawn.add(farms.remove((z >>> 8) % farms.size()));
        }
        return many;
    }

    int rate(int year, int what, int pw) {
        if (badYear(year) || !in(what, 0, 2)) return BAD;
        int p = pw / 100, w = pw % 100;
        if (what == 2 && (!in(p, 1, 99) || !in(w, 1, 49))) return BAD;
        List<Integer> wrong = new ArrayList<>();
        for (Body b : bodies) {
            boolean controlled = false;
            for (Control c : controls) controlled |= c.farm == b.number && c.year == year;
            if (controlled) wrong.add(errorOf(b.number, year, day) > 2 ? 1 : 0);
        }
        if (what == 0) return wrong.size();
        if (what == 1) return wrong.stream().mapToInt(v -> v).sum();
        List<Integer> judged = wrong.subList(0, Math.min(8, wrong.size()));
        int n = judged.size(), x = judged.stream().mapToInt(v -> v).sum();
        BigInteger more = BigInteger.ZERO, fewer = BigInteger.ZERO;
        for (int outcome = 0; outcome < 1 << n; outcome++) {
            BigInteger chance = BigInteger.ONE;
            for (int i = 0; i < n; i++) chance = chance.multiply(BigInteger.valueOf((outcome >> i & 1) == 1 ? p : 100 - p));
            if (Integer.bitCount(outcome) >= x) more = more.add(chance);
            if (Integer.bitCount(outcome) <= x) fewer = fewer.add(chance);
        }
        BigInteger hundred = BigInteger.valueOf(100), bound = hundred.pow(n).multiply(BigInteger.valueOf(w));
        if (more.multiply(hundred).compareTo(bound) < 0) return 1;
        return fewer.multiply(hundred).compareTo(bound) < 0 ? 2 : 0;
    }

    int plot(int squares) {
        if (!in(squares, 1, 576)) return BAD;
        if (plots.size() == 6) return FULL;
        plots.add(squares);
        return plots.size();
    }

    int worth(int crop, int v) {
        if (!in(crop, 0, 7) || !in(v, 0, 99)) return BAD;
        int was = worth[crop];
        worth[crop] = v;
        return was;
    }

    int mix(int most, int n) {
        if (!in(most, 1, 100) || !in(n, 1, 3) || plots.isEmpty()) return BAD;
        int count = plots.size(), ways = 1, best = NOT, all = plots.stream().mapToInt(v -> v).sum();
        int[] crop = new int[count], sums = new int[8];
        for (int i = 0; i < count; i++) ways *= 8;
        for (int way = 0; way < ways; way++) {
            Arrays.fill(sums, 0);
            int coins = 0, used = 0;
            // the first area is the highest digit, so that ways come as they stand by areas
            for (int i = count - 1, rest = way; i >= 0; i--, rest /= 8) {
                crop[i] = rest % 8;
                sums[crop[i]] += plots.get(i);
                coins += plots.get(i) * worth[crop[i]];
            }
            boolean fits = true;
            for (int s : sums) {
                if (s > 0) used++;
                fits &= 100 * s <= most * all;
            }
            if (fits && used >= n && coins > best) {
                best = coins;
                mixed = new ArrayList<>();
                for (int c : crop) mixed.add(c);
            }
        }
        plots.clear();
        return best;
    }

    int tried(int text, int land, int year, int what) {
        if (!in(text, 0, texts.size() - 1) || texts.get(text).what % 10 != 0 || !in(land, 0, 3) || badYear(year) || !in(what, 0, 1))
            return BAD;
        int more = 0, fewer = 0;
        for (Body b : bodies)
            if (b instanceof Farm f && f.land == land) {
                int now = pays(b.number, year, day, -1)[0], then = pays(b.number, year, day, text)[0];
                if (then > now) more++;
                if (then < now) fewer++;
            }
        return what == 0 ? more : fewer;
    }

    // ---- acts, shelves

    int act(int body, int act, int x) {
        TRACE.clear();
        int said = 0;
        if (isBody(body) && in(act, 0, 3)) {
            Body b = bodies.get(body);
            said = act == 0 ? b.yields(x) : act == 1 ? b.claims(x) : act == 2 ? b.holds(x) : b.tells(x);
        }
        trace = new ArrayList<>(TRACE);
        return said;
    }

    int keep(int shelf, int body) {
        if (!in(shelf, 0, 5) || body != -1 && !isBody(body)) return BAD;
        shelves[shelf] = body == -1 ? null : bodies.get(body);
        return 1;
    }

    int row(int shelf, int sort, int n) {
        if (!in(shelf, 0, 5) || !in(sort, 0, 4) || n > 60) return BAD;
        if (n < 0) return -14;
        shelves[shelf] = sort == 0 ? new byte[n] : sort == 1 ? new short[n] : sort == 2 ? new int[n] : sort == 3 ? new long[n] : new boolean[n];
        return 1;
    }

    int put(int shelf, int i, long v) {
        if (!in(shelf, 0, 5)) return BAD;
        Object held = shelves[shelf];
        if (held == null) return -11;
        if (held instanceof Body) return -12;
        if (!in(i, 0, java.lang.reflect.Array.getLength(held) - 1)) return -13;
        if (held instanceof byte[] row) row[i] = (byte) v;
        if (held instanceof short[] row) row[i] = (short) v;
        if (held instanceof int[] row) row[i] = (int) v;
        if (held instanceof long[] row) row[i] = v;
        if (held instanceof boolean[] row) row[i] = v != 0;
        return 1;
    }

    long element(int shelf, int i) {
        if (!in(shelf, 0, 5)) return Long.MIN_VALUE;
        Object held = shelves[shelf];
        if (held == null || held instanceof Body) return Long.MIN_VALUE;
        if (!in(i, 0, java.lang.reflect.Array.getLength(held) - 1)) return Long.MIN_VALUE;
        if (held instanceof boolean[] row) return row[i] ? 1 : 0;
        return java.lang.reflect.Array.getLong(held, i);
    }

    int shift(int shelf, int i, int other, int j, int n) {
        if (!in(shelf, 0, 5) || !in(other, 0, 5)) return BAD;
        Object a = shelves[shelf], b = shelves[other];
        if (a == null || b == null) return -11;
        if (a instanceof Body || b instanceof Body || a.getClass() != b.getClass()) return -12;
        try {
            System.arraycopy(a, i, b, j, n);
        } catch (IndexOutOfBoundsException e) {
            return -13;
        }
        return n;
    }

    int taken(int shelf, int k) {
        if (!in(shelf, 0, 5) || !in(k, 0, 7)) return BAD;
        Object held = shelves[shelf];
        if (held == null) return -11;
        Class<?>[] kinds = {Body.class, Farm.class, Young.class, Small.class, Field.class, Meadow.class, Permit.class, Heir.class};
        return kinds[k].isInstance(held) ? ((Body) held).kind : -12;
    }

    int count(int what) {
        switch (what) {
            case 0: return bodies.size();
            case 1: return (int) bodies.stream().filter(b -> b instanceof Farm).count();
            case 2: return (int) bodies.stream().filter(b -> b instanceof Field).count();
            case 3: return (int) bodies.stream().filter(b -> b instanceof Permit).count();
            case 4: return claims.size();
            case 5: return hands.size();
            case 6: return controls.size();
            case 7: return day;
            case 8: return texts.size();
            case 9: return tape.length();
            case 10: return ring.size();
            case 11: return trace.size();
            default: return BAD;
        }
    }
}
