/** Random runs, the same ones each time, in which every answer and STATUS is held against the plain model. */
public final class RandomRunsTest {
    private static final int CALLS = 512;
    private static long seed;
    private static boolean edgy = false;
    private static int wrong = 0;
    private static StringBuilder told;
    private static Counted x;
    private static PlainModel m;

    private static int below(int n) {
        seed = seed * 6364136223846793005L + 1442695040888963407L;
        return (int) ((seed >>> 33) % n);
    }

    /** Mostly a .. b, at times just or far outside; in every fourth run about as often outside or at its ends. */
    private static int from(int a, int b) {
        int chance = below(edgy ? 14 : 60);
        if (chance == 0) return a - 1;
        if (chance == 1) return b + 1;
        if (chance == 2) return below(2) == 0 ? Integer.MIN_VALUE : Integer.MAX_VALUE;
        if (chance == 3) return a - 1 - below(300);
        if (chance == 4) return b + 1 + below(300);
        if (chance == 5) return a;
        if (chance == 6) return b;
        return a + below(b - a + 1);
    }

    private static boolean coin() { return below(2) == 0; }
    private static int stretchNumber() { return from(0, Math.max(0, m.s.stretches.size() - 1)); }
    private static int landing() { return from(0, m.s.stretches.size()); }
    private static int boatNumber() { return from(0, Math.max(0, m.s.boats.size() - 1)); }
    private static int baleNumber() { return from(0, Math.max(0, m.s.bales.size() - 1)); }
    private static int day() { return coin() ? from(0, 99) : from(0, 8); }

    private static void same(String call, int got, int want) {
        told.append(call).append(" = ").append(got).append('\n');
        if (got != want) {
            wrong++;
            if (wrong <= 3) {
                System.out.println("the model has " + want + " behind these calls:");
                System.out.print(told);
            }
        }
    }

    private static void told(String name, int got, int want, int... args) {
        StringBuilder b = new StringBuilder(name).append('(');
        for (int i = 0; i < args.length; i++) b.append(i == 0 ? "" : ", ").append(args[i]);
        same(b.append(')').toString(), got, want);
        same("status()", x.status(), m.status());
    }

    private static void doBuild(int what) {
        int a = from(0, 5), b = from(1, 20), c = coin() ? from(0, 12) : from(0, 99), d = from(1, 99);
        int l = landing(), l2 = landing();
        switch (what) {
            case 0: told("stretch", x.stretch(a, b, c), m.stretch(a, b, c), a, b, c); break;
            case 1: {
                int hull = coin() ? from(1, 30) : from(1, 6), room = coin() ? from(1, 999) : from(100, 300);
                told("boat", x.boat(l, hull, room, d), m.boat(l, hull, room, d), l, hull, room, d);
                break;
            }
            case 2: {
                int weight = coin() ? from(1, 200) : from(1, 20), rate = coin() ? from(0, 999) : from(1, 4);
                told("bale", x.bale(l, l2, weight, rate), m.bale(l, l2, weight, rate), l, l2, weight, rate);
                break;
            }
            case 3: {
                int waits = coin() ? from(0, 9) : from(0, 1);
                told("trip", x.trip(l, l2, waits), m.trip(l, l2, waits), l, l2, waits);
                break;
            }
            case 4: {
                int how = from(0, 2), days = 100 * from(0, coin() ? 3 : 99) + from(0, 99);
                told("rule", x.rule(a, how, days), m.rule(a, how, days), a, how, days);
                break;
            }
            default: {
                int price = coin() ? from(0, 99) : from(0, 3);
                told("yard", x.yard(l, price), m.yard(l, price), l, price);
            }
        }
    }

    private static void doWater(int what) {
        int k = stretchNumber(), d = day();
        boolean is = coin();
        switch (what) {
            case 0: {
                int h = from(-20, 40);
                told("gauge", x.gauge(d, h), m.gauge(d, h), d, h);
                break;
            }
            case 1: {
                int n = from(-20, 20);
                told("shift", x.shift(k, d, n), m.shift(k, d, n), k, d, n);
                break;
            }
            case 2: told("cold", x.cold(d, is), m.cold(d, is), d, is ? 1 : 0); break;
            default: told("light", x.light(k, is), m.light(k, is), k, is ? 1 : 0);
        }
    }

    private static void doMove(int what) {
        int b = boatNumber(), bale = baleNumber();
        boolean down = coin();
        switch (what) {
            case 0: case 1: told("leave", x.leave(b, down), m.leave(b, down), b, down ? 1 : 0); break;
            case 2: told("off", x.off(b), m.off(b), b); break;
            case 3: case 4: case 5: {
                int n = coin() ? from(1, 200) : from(1, 12);
                told("go", x.go(n), m.go(n), n);
                break;
            }
            case 6: {
                int n = coin() ? from(1, 99) : from(1, 15);
                told("wood", x.wood(b, n), m.wood(b, n), b, n);
                break;
            }
            case 7: case 8: told("lade", x.lade(bale, b), m.lade(bale, b), bale, b); break;
            case 9: told("land", x.land(bale), m.land(bale), bale); break;
            case 10: if (below(4) == 0) told("lose", x.lose(bale), m.lose(bale), bale); break;
            case 11: if (below(3) == 0) told("image", x.image(), m.image()); break;
            default: if (below(5) == 0) told("back", x.back(), m.back());
        }
    }

    private static void doHost(int what) {
        int sheet = from(0, 3);
        switch (what) {
            case 0: {
                int sort = from(-1, 2), n = coin() ? from(0, 40) : from(0, 6);
                told("sheet", x.sheet(sheet, sort, n), m.sheet(sheet, sort, n), sheet, sort, n);
                break;
            }
            case 1: case 2: case 3: {
                int i = coin() ? from(0, 40) : from(0, 6), v = coin() ? from(-1000, 1000) : from(-50, 90);
                told("cell", x.cell(sheet, i, v), m.cell(sheet, i, v), sheet, i, v);
                break;
            }
            case 4: {
                int i = coin() ? from(0, 40) : from(0, 6);
                told("none", x.none(sheet, i), m.none(sheet, i), sheet, i);
                break;
            }
            case 5: {
                int d = day(), i = from(0, 6), n = coin() ? from(0, 40) : from(0, 6);
                told("gauges", x.gauges(d, sheet, i, n), m.gauges(d, sheet, i, n), d, sheet, i, n);
                break;
            }
            case 6: {
                int k = stretchNumber(), act = from(0, 3), v = coin() ? from(-100, 100) : below(2147483647) * 2 + 1;
                told("act", x.act(k, act, v), m.act(k, act, v), k, act, v);
                break;
            }
            default: {
                int kind = from(0, 6), n = coin() ? from(-100, 100) : from(-1, 6), k = from(-100, 100);
                told("forge", x.forge(kind, n, k), m.forge(kind, n, k), kind, n, k);
            }
        }
    }

    private static void ask(int what) {
        int k = stretchNumber(), d = day(), b = boatNumber(), b2 = boatNumber(), l = landing(), l2 = landing();
        int part = from(0, 5), word = from(0, 1), place = from(0, 9), bale = baleNumber();
        boolean one = coin(), two = coin();
        switch (what) {
            case 0: told("height", x.height(d), m.height(d), d); break;
            case 1: told("stretchTold", x.stretchTold(k, part), m.stretchTold(k, part), k, part); break;
            case 2: told("water", x.water(k, d), m.water(k, d), k, d); break;
            case 3: told("boatTold", x.boatTold(b, part), m.boatTold(b, part), b, part); break;
            case 4: told("baleTold", x.baleTold(bale, part), m.baleTold(bale, part), bale, part); break;
            case 5: told("why", x.why(b, one), m.why(b, one), b, one ? 1 : 0); break;
            case 6: told("knows", x.knows(b, k, word), m.knows(b, k, word), b, k, word); break;
            case 7: told("box", x.box(l, k, word), m.box(l, k, word), l, k, word); break;
            case 8: {
                int w = coin() ? from(0, 60) : from(4, 25);
                told("lading", x.lading(b, w), m.lading(b, w), b, w);
                break;
            }
            case 9: told("wooding", x.wooding(b, l, l2), m.wooding(b, l, l2), b, l, l2); break;
            case 10: told("bought", x.bought(b, l, l2, place), m.bought(b, l, l2, place), b, l, l2, place); break;
            case 11: told("lights", x.lights(), m.lights()); break;
            case 12: told("gives", x.gives(b, b2, k, one, two), m.gives(b, b2, k, one, two), b, b2, k); break;
            case 13: told("count", x.count(place), m.count(place), place); break;
            default: told("trace", x.trace(place), m.trace(place), place);
        }
    }

    private static void run(int number) {
        seed = number * 7919L + 17;
        edgy = number % 4 == 3;
        told = new StringBuilder("run " + number + "\n");
        x = new Counted();
        m = new PlainModel();
        int most = 1 + below(10);
        for (int made = 0; made < CALLS / 2 - 1;) {
            int chance = below(100);
            if (chance < 18 && (m.s.stretches.size() < most || below(20) == 0)) doBuild(below(6));
            else if (chance < 18) doBuild(1 + below(5));
            else if (chance < 26) doWater(below(4));
            else if (chance < 55) doMove(below(13));
            else if (chance < 65) doHost(below(8));
            else ask(below(15));
            made++;
        }
    }

    public static void main(String[] args) {
        int runs = args.length > 0 ? Integer.parseInt(args[0]) : 3000;
        for (int i = 0; i < runs; i++) run(i);
        System.out.println(wrong == 0 ? runs + " random runs are as the plain model"
            : wrong + " answers are not as the plain model");
        if (wrong != 0) System.exit(1);
    }
}
