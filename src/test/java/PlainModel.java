import java.util.ArrayList;
import java.util.HashMap;
import java.util.HashSet;
import java.util.List;
import java.util.Map;
import java.util.Set;
import java.util.TreeMap;

/**
 * The document once more, written as plainly as the Java library allows and without a look at speed:
 * the kinds are real classes, the sheets real arrays, and what the host refuses is what Java throws.
 */
final class PlainModel {
    static final int NO = -1000;

    // ---- kinds as classes, whose bodies note themselves ----

    static class Reach {
        int n;
        int l;
        int d;
        boolean lit;
        final TreeMap<Integer, Integer> shifts = new TreeMap<>();
        List<Integer> trace;

        int kind() { return 0; }
        void ran(int body) { if (trace.size() < 50) trace.add(body); }
        int bear(int x) { ran(10); return x + d; }
        int move(int x) { ran(11); return bear(x) * 2; }
        int bar(int x) { ran(12); return x - n; }
        int tell(int x) { ran(13); return move(x) ^ bar(x); }
    }

    static class Bar extends Reach {
        @Override int kind() { return 1; }
        @Override int bear(int x) { ran(20); return super.bear(x) - l; }
        @Override int tell(int x) { ran(21); return super.tell(x + 1); }
    }

    static final class Bend extends Reach {
        @Override int kind() { return 2; }
        @Override int move(int x) { ran(30); return super.move(x) + bar(l); }
    }

    static final class Crossing extends Bar {
        @Override int kind() { return 3; }
        @Override int bar(int x) { ran(40); return super.bar(x) * 3; }
        @Override int bear(int x) { ran(41); return super.bear(x + n); }
    }

    static final class Lock extends Reach {
        @Override int kind() { return 4; }
        @Override int move(int x) { ran(50); return super.move(x) ^ d; }
        @Override int bar(int x) { ran(51); return super.bar(x + l); }
    }

    static final class Ice extends Reach {
        @Override int kind() { return 5; }
        @Override int tell(int x) { ran(60); return bar(x) - super.tell(x); }
    }

    static Reach ofKind(int kind) {
        switch (kind) {
            case 0: return new Reach();
            case 1: return new Bar();
            case 2: return new Bend();
            case 3: return new Crossing();
            case 4: return new Lock();
            default: return new Ice();
        }
    }

    static Reach castTo(int kind, Reach it) {
        switch (kind) {
            case 0: return it;
            case 1: return (Bar) it;
            case 2: return (Bend) it;
            case 3: return (Crossing) it;
            case 4: return (Lock) it;
            default: return (Ice) it;
        }
    }

    // ---- the state that an image keeps ----

    record Word(int water, int quarter) { }

    static final class Boat {
        int hull;
        int room;
        int tank;
        int wood;
        String how = "at";
        int landing;
        int stretch;
        boolean down;
        int until;
        final Map<Integer, Word> words = new HashMap<>();

        Boat copy() {
            Boat c = new Boat();
            c.hull = hull; c.room = room; c.tank = tank; c.wood = wood; c.how = how;
            c.landing = landing; c.stretch = stretch; c.down = down; c.until = until;
            c.words.putAll(words);
            return c;
        }
    }

    static final class Bale {
        int to;
        int weight;
        int rate;
        String how = "at";
        int where;

        Bale copy() {
            Bale c = new Bale();
            c.to = to; c.weight = weight; c.rate = rate; c.how = how; c.where = where;
            return c;
        }
    }

    static final class State {
        int quarter;
        final List<Reach> stretches = new ArrayList<>();
        final List<Boat> boats = new ArrayList<>();
        final List<Bale> bales = new ArrayList<>();
        final List<int[]> trips = new ArrayList<>();
        final List<int[]> rules = new ArrayList<>();
        final TreeMap<Integer, Integer> heights = new TreeMap<>();
        final Set<Integer> cold = new HashSet<>();
        final Map<Integer, Integer> prices = new HashMap<>();
        final Map<Integer, Map<Integer, Word>> boxes = new HashMap<>();

        State copy() {
            State c = new State();
            c.quarter = quarter;
            for (Reach s : stretches) {
                Reach t = ofKind(s.kind());
                t.n = s.n; t.l = s.l; t.d = s.d; t.lit = s.lit; t.trace = s.trace;
                t.shifts.putAll(s.shifts);
                c.stretches.add(t);
            }
            for (Boat b : boats) c.boats.add(b.copy());
            for (Bale b : bales) c.bales.add(b.copy());
            c.trips.addAll(trips);
            c.rules.addAll(rules);
            c.heights.putAll(heights);
            c.cold.addAll(cold);
            c.prices.putAll(prices);
            boxes.forEach((k, v) -> c.boxes.put(k, new HashMap<>(v)));
            return c;
        }
    }

    /** Carries a STATUS to the call that is refused. */
    static final class Refusal extends RuntimeException {
        private static final long serialVersionUID = 1L;
        final int status;
        Refusal(int status) { super(null, null, false, false); this.status = status; }
    }

    State s = new State();
    State image;
    int backs;
    int status;
    final List<Integer> trace = new ArrayList<>();
    final Object[] sheets = new Object[4];

    interface Call { int run(); }

    int call(Call c) {
        try {
            int r = c.run();
            status = 0;
            return r;
        } catch (Refusal r) {
            status = r.status;
        } catch (NullPointerException e) {
            status = 10;
        } catch (ClassCastException e) {
            status = 11;
        } catch (NegativeArraySizeException e) {
            status = 13;
        } catch (ArrayStoreException e) {
            status = 14;
        } catch (IndexOutOfBoundsException e) {
            status = 12;
        } catch (ArithmeticException e) {
            status = 15;
        }
        return -1;
    }

    static void need(boolean so, int status) { if (!so) throw new Refusal(status); }
    static boolean in(int v, int a, int b) { return a <= v && v <= b; }
    boolean isStretch(int k) { return in(k, 0, s.stretches.size() - 1); }
    boolean isLanding(int k) { return in(k, 0, s.stretches.size()); }
    boolean isBoat(int k) { return in(k, 0, s.boats.size() - 1); }
    boolean isBale(int k) { return in(k, 0, s.bales.size() - 1); }
    static boolean isDay(int d) { return in(d, 0, 99); }
    int today() { return s.quarter / 96; }
    boolean night() { int q = s.quarter % 96; return q < 24 || q >= 72; }

    int heightOf(int day) {
        if (s.heights.containsKey(day)) return s.heights.get(day);
        Map.Entry<Integer, Integer> x = s.heights.lowerEntry(day);
        Map.Entry<Integer, Integer> y = s.heights.higherEntry(day);
        if (x == null && y == null) return 0;
        if (x == null) return y.getValue();
        if (y == null) return x.getValue();
        double part = (double) ((y.getValue() - x.getValue()) * (day - x.getKey())) / (y.getKey() - x.getKey());
        return x.getValue() + (int) (part + (part > 0 ? 1e-9 : -1e-9));
    }

    int waterOf(int k, int day) {
        Reach it = s.stretches.get(k);
        if (it instanceof Lock) return it.d;
        if (it instanceof Ice && s.cold.contains(day)) return 0;
        int water = it.d + heightOf(day);
        if (it instanceof Bar) {
            Map.Entry<Integer, Integer> e = it.shifts.floorEntry(day);
            if (e != null) water -= e.getValue();
        }
        return water;
    }

    int longOf(int k, boolean atNight) {
        Reach it = s.stretches.get(k);
        if (it instanceof Bend && heightOf(today()) >= 20) return it.l - it.l / 2;
        if (it instanceof Lock) return it.l + 4;
        if (it instanceof Crossing && atNight && !it.lit) return it.l + 8;
        return it.l;
    }

    int weightAboard(int boat) {
        int w = 0;
        for (Bale b : s.bales) if (b.how.equals("aboard") && b.where == boat) w += b.weight;
        return w;
    }

    int draught(int boat) { return s.boats.get(boat).hull + weightAboard(boat) / 10; }

    void come(Boat b, int landing) {
        b.how = "at";
        b.landing = landing;
        Map<Integer, Word> box = s.boxes.computeIfAbsent(landing, k -> new HashMap<>());
        for (int k = 0; k < 10; k++) {
            Word own = b.words.get(k);
            Word other = box.get(k);
            int ownAge = own == null ? -1 : own.quarter();
            int otherAge = other == null ? -1 : other.quarter();
            if (ownAge > otherAge) box.put(k, own);
            if (otherAge > ownAge) b.words.put(k, other);
        }
    }

    int whyOf(int boat, boolean down) {
        Boat b = s.boats.get(boat);
        if (!b.how.equals("at")) return 1;
        int k = down ? b.landing : b.landing - 1;
        if (!isStretch(k)) return 2;
        Word w = b.words.get(k);
        if (w != null && w.water() < draught(boat)) return 3;
        if (b.wood < longOf(k, night())) return 4;
        return 0;
    }

    // ---- the calls ----

    int stretch(int kind, int length, int depth) {
        return call(() -> {
            need(in(kind, 0, 5) && in(length, 1, 20) && in(depth, 0, 99), 1);
            need(s.stretches.size() < 10, 2);
            Reach r = ofKind(kind);
            r.n = s.stretches.size();
            r.l = length;
            r.d = depth;
            r.trace = trace;
            s.stretches.add(r);
            return r.n;
        });
    }

    int gauge(int day, int height) {
        return call(() -> {
            need(isDay(day) && in(height, -20, 40), 1);
            s.heights.put(day, height);
            return s.heights.size();
        });
    }

    int shift(int k, int day, int n) {
        return call(() -> {
            need(isStretch(k) && isDay(day) && in(n, -20, 20), 1);
            need(s.stretches.get(k) instanceof Bar, 3);
            s.stretches.get(k).shifts.put(day, n);
            return 1;
        });
    }

    int cold(int day, boolean is) {
        return call(() -> {
            need(isDay(day), 1);
            return (is ? s.cold.add(day) : s.cold.remove(day)) ? 1 : 0;
        });
    }

    int light(int k, boolean is) {
        return call(() -> {
            need(isStretch(k), 1);
            need(s.stretches.get(k) instanceof Crossing, 3);
            boolean was = s.stretches.get(k).lit;
            s.stretches.get(k).lit = is;
            return was != is ? 1 : 0;
        });
    }

    int boat(int landing, int hull, int room, int tank) {
        return call(() -> {
            need(isLanding(landing) && in(hull, 1, 30) && in(room, 1, 999) && in(tank, 1, 99), 1);
            need(s.boats.size() < 5, 2);
            Boat b = new Boat();
            b.landing = landing;
            b.hull = hull;
            b.room = room;
            b.tank = tank;
            b.wood = tank;
            s.boats.add(b);
            return s.boats.size() - 1;
        });
    }

    int bale(int from, int to, int weight, int rate) {
        return call(() -> {
            need(isLanding(from) && isLanding(to) && from != to && in(weight, 1, 200) && in(rate, 0, 999), 1);
            need(s.bales.size() < 12, 2);
            Bale b = new Bale();
            b.where = from;
            b.to = to;
            b.weight = weight;
            b.rate = rate;
            s.bales.add(b);
            return s.bales.size() - 1;
        });
    }

    int lade(int bale, int boat) {
        return call(() -> {
            need(isBale(bale) && isBoat(boat), 1);
            Bale b = s.bales.get(bale);
            Boat t = s.boats.get(boat);
            need(b.how.equals("at") && t.how.equals("at") && b.where == t.landing, 3);
            need(weightAboard(boat) + b.weight <= t.room, 3);
            b.how = "aboard";
            b.where = boat;
            return draught(boat);
        });
    }

    int land(int bale) {
        return call(() -> {
            need(isBale(bale), 1);
            Bale b = s.bales.get(bale);
            need(b.how.equals("aboard") && s.boats.get(b.where).how.equals("at"), 3);
            b.where = s.boats.get(b.where).landing;
            b.how = b.where == b.to ? "paid" : "at";
            return b.where;
        });
    }

    int lose(int bale) {
        return call(() -> {
            need(isBale(bale), 1);
            need(s.bales.get(bale).how.equals("aboard"), 3);
            s.bales.get(bale).how = "lost";
            s.bales.get(bale).where = -1;
            return 1;
        });
    }

    int leave(int boat, boolean down) {
        return call(() -> {
            need(isBoat(boat), 1);
            int why = whyOf(boat, down);
            need(why == 0, 20 + why);
            Boat b = s.boats.get(boat);
            b.stretch = down ? b.landing : b.landing - 1;
            b.down = down;
            int water = waterOf(b.stretch, today());
            b.words.put(b.stretch, new Word(water, s.quarter));
            if (draught(boat) > water) {
                b.how = "aground";
                return 0;
            }
            int lasts = longOf(b.stretch, night());
            b.how = "way";
            b.until = s.quarter + lasts;
            b.wood -= lasts;
            return lasts;
        });
    }

    int off(int boat) {
        return call(() -> {
            need(isBoat(boat), 1);
            Boat b = s.boats.get(boat);
            need(b.how.equals("aground") && draught(boat) <= waterOf(b.stretch, today()), 3);
            come(b, b.down ? b.stretch : b.stretch + 1);
            return b.landing;
        });
    }

    int go(int n) {
        return call(() -> {
            need(in(n, 1, 200), 1);
            need(s.quarter + n <= 9599, 2);
            for (int i = 0; i < n; i++) {
                s.quarter++;
                for (Boat b : s.boats) {
                    if (b.how.equals("way") && b.until == s.quarter) come(b, b.down ? b.stretch + 1 : b.stretch);
                }
            }
            return s.quarter;
        });
    }

    int yard(int landing, int price) {
        return call(() -> {
            need(isLanding(landing) && in(price, 0, 99), 1);
            Integer was = s.prices.put(landing, price);
            return was == null ? 0 : was;
        });
    }

    int wood(int boat, int n) {
        return call(() -> {
            need(isBoat(boat) && in(n, 1, 99), 1);
            Boat b = s.boats.get(boat);
            need(b.how.equals("at") && s.prices.getOrDefault(b.landing, 0) != 0 && b.wood + n <= b.tank, 3);
            b.wood += n;
            return b.wood;
        });
    }

    int trip(int from, int to, int waits) {
        return call(() -> {
            need(isLanding(from) && isLanding(to) && from != to && in(waits, 0, 9), 1);
            need(s.trips.size() < 6, 2);
            s.trips.add(new int[] {from, to, waits});
            return s.trips.size() - 1;
        });
    }

    int rule(int kind, int how, int days) {
        return call(() -> {
            need(in(kind, 0, 5) && in(how, 0, 2) && days >= 0, 1);
            int from = days / 100;
            int to = days - 100 * from;
            need(isDay(from) && isDay(to) && from <= to, 1);
            need(s.rules.size() < 8, 2);
            s.rules.add(new int[] {kind, how, from, to});
            return s.rules.size() - 1;
        });
    }

    int image() {
        return call(() -> {
            image = s.copy();
            return 1;
        });
    }

    int back() {
        return call(() -> {
            need(backs < 10, 2);
            need(image != null, 3);
            s = image.copy();
            backs++;
            return s.quarter;
        });
    }

    int height(int day) { return isDay(day) ? heightOf(day) : NO; }

    int stretchTold(int k, int what) {
        if (!isStretch(k)) return NO;
        Reach it = s.stretches.get(k);
        if (what == 0) return it.kind();
        if (what == 1) return it.l;
        if (what == 2) return it.d;
        if (what == 3) return it.lit ? 1 : 0;
        if (what == 4) {
            Map.Entry<Integer, Integer> e = it.shifts.floorEntry(today());
            return e == null ? 0 : e.getValue();
        }
        return what == 5 ? longOf(k, night()) : NO;
    }

    int water(int k, int day) { return isStretch(k) && isDay(day) ? waterOf(k, day) : NO; }

    int boatTold(int boat, int what) {
        if (!isBoat(boat)) return -1;
        Boat b = s.boats.get(boat);
        boolean at = b.how.equals("at");
        boolean way = b.how.equals("way");
        if (what == 0) return at ? 0 : way ? b.down ? 1 : 2 : 3;
        if (what == 1) return at ? b.landing : b.stretch;
        if (what == 2) return way ? b.until : 0;
        if (what == 3) return weightAboard(boat);
        if (what == 4) return draught(boat);
        return what == 5 ? b.wood : -1;
    }

    int baleTold(int bale, int what) {
        if (!isBale(bale)) return -1;
        Bale b = s.bales.get(bale);
        if (what == 0) return List.of("at", "aboard", "paid", "lost").indexOf(b.how);
        if (what == 1) return b.where;
        if (what == 2) return b.to;
        if (what == 3) return b.weight;
        return what == 4 ? b.rate : -1;
    }

    int why(int boat, boolean down) { return isBoat(boat) ? whyOf(boat, down) : -1; }

    static int wordTold(Word w, int what) {
        if (w == null) return NO;
        return what == 0 ? w.water() : what == 1 ? w.quarter() : NO;
    }

    int knows(int boat, int k, int what) {
        return isBoat(boat) && isStretch(k) ? wordTold(s.boats.get(boat).words.get(k), what) : NO;
    }

    int box(int landing, int k, int what) {
        if (!isLanding(landing) || !isStretch(k)) return NO;
        return wordTold(s.boxes.getOrDefault(landing, Map.of()).get(k), what);
    }

    int lading(int boat, int water) {
        if (!isBoat(boat)) return -1;
        Boat b = s.boats.get(boat);
        if (!b.how.equals("at") || draught(boat) > water) return -1;
        int aboard = weightAboard(boat);
        int best = -1;
        int bestRate = 0;
        int bestWeight = 0;
        for (int set = 0; set < 1 << s.bales.size(); set++) {
            int rate = 0;
            int weight = 0;
            boolean can = true;
            for (int i = 0; i < s.bales.size(); i++) {
                if ((set & 1 << i) == 0) continue;
                Bale x = s.bales.get(i);
                can &= x.how.equals("at") && x.where == b.landing;
                rate += x.rate;
                weight += x.weight;
            }
            can &= aboard + weight <= b.room && b.hull + (aboard + weight) / 10 <= water;
            if (can && (best < 0 || rate > bestRate || rate == bestRate && weight < bestWeight)) {
                best = set;
                bestRate = rate;
                bestWeight = weight;
            }
        }
        return best;
    }

    /** The dearest-to-cheapest search over all ways to buy, remembered by place and wood; null: no way. */
    private List<Integer> plan(int tank, int at, int to, int wood, Map<Integer, List<Integer>> seen) {
        if (at == to) return new ArrayList<>(List.of(0));
        int key = at * 1000 + wood;
        if (seen.containsKey(key)) return seen.get(key);
        int step = to > at ? 1 : -1;
        int need = longOf(step > 0 ? at : at - 1, false);
        int price = s.prices.getOrDefault(at, 0);
        List<Integer> best = null;
        for (int buy = 0; wood + buy <= tank && (buy == 0 || price > 0); buy++) {
            if (wood + buy < need) continue;
            List<Integer> rest = plan(tank, at + step, to, wood + buy - need, seen);
            if (rest == null) continue;
            int cost = rest.get(0) + buy * price;
            if (best == null || cost < best.get(0)) {
                best = new ArrayList<>(rest);
                best.set(0, cost);
                best.add(1, buy);
            }
        }
        seen.put(key, best);
        return best;
    }

    private List<Integer> planFor(int boat, int from, int to) {
        if (!isBoat(boat) || !isLanding(from) || !isLanding(to)) return null;
        return plan(s.boats.get(boat).tank, from, to, 0, new HashMap<>());
    }

    int wooding(int boat, int from, int to) {
        List<Integer> p = planFor(boat, from, to);
        return p == null ? -1 : p.get(0);
    }

    int bought(int boat, int from, int to, int i) {
        List<Integer> p = planFor(boat, from, to);
        return p == null || i < 0 || i >= p.size() - 1 ? -1 : p.get(i + 1);
    }

    int lights() {
        int best = -1;
        for (int set = 0; set < 1 << s.stretches.size(); set++) {
            boolean can = true;
            for (int i = 0; i < s.stretches.size(); i++) {
                Reach it = s.stretches.get(i);
                if ((set >> i & 1) == 1) can &= it instanceof Crossing && !it.lit;
            }
            for (int[] t : s.trips) {
                int dark = 0;
                for (int k = Math.min(t[0], t[1]); k < Math.max(t[0], t[1]); k++) {
                    Reach it = s.stretches.get(k);
                    if (it instanceof Crossing && !it.lit && (set >> k & 1) == 0) dark++;
                }
                can &= dark <= t[2];
            }
            if (can && (best < 0 || Integer.bitCount(set) < Integer.bitCount(best))) best = set;
        }
        return best;
    }

    int gives(int a, int b, int k, boolean aUp, boolean bUp) {
        if (!isBoat(a) || !isBoat(b) || a == b || !isStretch(k)) return -1;
        for (int[] r : s.rules) {
            if (today() < r[2] || today() > r[3]) continue;
            if (!ofKind(r[0]).getClass().isInstance(s.stretches.get(k))) continue;
            if (r[1] == 0 && aUp && !bUp) return a;
            if (r[1] == 0 && bUp && !aUp) return b;
            if (r[1] == 1 && draught(a) < draught(b)) return a;
            if (r[1] == 1 && draught(b) < draught(a)) return b;
            if (r[1] == 2) return a > b ? a : b;
        }
        return -1;
    }

    int count(int what) {
        switch (what) {
            case 0: return s.stretches.size();
            case 1: return s.boats.size();
            case 2: return s.bales.size();
            case 3: return s.trips.size();
            case 4: return s.rules.size();
            case 5: return s.quarter;
            case 6: return s.bales.stream().filter(b -> b.how.equals("paid")).mapToInt(b -> b.rate).sum();
            case 7: return (int) s.boats.stream().filter(b -> b.how.equals("aground")).count();
            case 8: return night() ? 1 : 0;
            case 9: return trace.size();
            default: return -1;
        }
    }

    int act(int k, int act, int x) {
        return call(() -> {
            need(isStretch(k) && in(act, 0, 3), 1);
            trace.clear();
            Reach it = s.stretches.get(k);
            return act == 0 ? it.bear(x) : act == 1 ? it.move(x) : act == 2 ? it.bar(x) : it.tell(x);
        });
    }

    int trace(int i) { return in(i, 0, trace.size() - 1) ? trace.get(i) : -1; }

    int sheet(int k, int sort, int n) {
        return call(() -> {
            need(in(k, 0, 3) && (sort == -1 || in(sort, 0, 2) && in(n, 0, 40)), 1);
            sheets[k] = sort == -1 ? null : sort == 0 ? new byte[n] : sort == 1 ? new short[n] : (Object) new float[n];
            return 1;
        });
    }

    int cell(int k, int i, int v) {
        return call(() -> {
            need(in(k, 0, 3) && in(v, -1000, 1000), 1);
            Object it = sheets[k];
            if (it instanceof byte[] b) b[i] = (byte) v;
            else if (it instanceof short[] t) t[i] = (short) v;
            else ((float[]) it)[i] = v / 2f;
            return 1;
        });
    }

    int none(int k, int i) {
        return call(() -> {
            need(in(k, 0, 3), 1);
            ((float[]) sheets[k])[i] = Float.NaN;
            return 1;
        });
    }

    int gauges(int day, int k, int i, int n) {
        return call(() -> {
            need(isDay(day) && in(k, 0, 3) && in(n, 0, 40) && (n == 0 || isDay(day + n - 1)), 1);
            float[] row = (float[]) sheets[k];
            if (row == null) throw new NullPointerException();
            for (int j = 0; j < n; j++) {
                float f = row[i + j];
                if (Float.isNaN(f)) continue;
                if (in((int) f, -20, 40)) s.heights.put(day + j, (int) f);
            }
            return s.heights.size();
        });
    }

    int forge(int what, int n, int k) {
        return call(() -> {
            need(in(what, 0, 6) && in(n, -100, 100) && in(k, -100, 100), 1);
            int m = ((k % 10) + 10) % 10;
            Reach it = isStretch(m) ? s.stretches.get(m) : null;
            Object sheet = sheets[((k % 4) + 4) % 4];
            switch (what) {
                case 0: return castTo(((n % 6) + 6) % 6, it).kind();
                case 1: return new int[n].length;
                case 2: return ((short[]) sheet)[n];
                case 3: {
                    byte[] to = new byte[6];
                    System.arraycopy((byte[]) sheet, 1, to, n, n);
                    int sum = 0;
                    for (byte b : to) sum += b;
                    return sum;
                }
                case 4: {
                    Reach[] row = new Bar[1];
                    row[0] = it;
                    return it == null ? 0 : it.kind();
                }
                case 5: return 1000 / n;
                default: {
                    RuntimeException e = n % 2 == 0 ? null : new IllegalStateException();
                    try {
                        throw e;
                    } catch (IllegalStateException caught) {
                        return 1;
                    }
                }
            }
        });
    }

    int status() { return status; }
}
