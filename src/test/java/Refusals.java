import java.util.Arrays;
import java.util.EnumMap;
import java.util.Map;

/**
 * Each ground of a refusal alone, and several at once: the call answers -1 and STATUS is the lowest of them; then
 * all that can be learnt of the object is as in a twin on which the call was not tried.
 */
final class Refusals extends Bench {
    private static final int REACH = 0, BAR = 1, BEND = 2, CROSSING = 3, LOCK = 4, ICE = 5;
    private static final int BYTES = 0, SHORTS = 1, FLOATS = 2, MISSING = 3;
    private static final String NOTHING_ELSE = "Such calls answer -1 and change nothing else";
    private static final String LOWEST = "Where several hold, the lowest.";

    private interface Call {
        int on(Counted y);
    }

    private static final Map<Scene, int[][]> untouched = new EnumMap<>(Scene.class);

    private static int[][] untouched(Scene scene) {
        return untouched.computeIfAbsent(scene, s -> {
            int[][] all = new int[Snapshot.PARTS][];
            for (int part = 0; part < all.length; part++) {
                Counted y = new Counted();
                s.play(y);
                all[part] = Snapshot.of(y, part);
            }
            return all;
        });
    }

    private static void refused(Scene scene, int status, Call call) {
        int[][] due = untouched(scene);
        for (int part = 0; part < Snapshot.PARTS; part++) {
            Counted y = new Counted();
            scene.play(y);
            due(call.on(y), -1);
            due(y.status(), status);
            if (!Arrays.equals(Snapshot.of(y, part), due[part])) {
                due(0, 1);
                fault("a refused call changed something that part " + part + " of the snapshot shows");
            }
        }
    }

    private static void refused(int status, Call call) {
        refused(Scene.MIDST, status, call);
    }

    static void theScenesAreWhatTheyAreTakenFor() {
        says(NOTHING_ELSE);
        x = new Counted();
        Scene.MIDST.play(x);
        int[] how = {0, 1, 3, 0};
        int[] where = {2, 1, 3, 5};
        int[] wood = {16, 16, 20, 0};
        for (int b = 0; b < 4; b++) {
            due(x.boatTold(b, 0), how[b]);
            due(x.boatTold(b, 1), where[b]);
            due(x.boatTold(b, 5), wood[b]);
        }
        int[] bales = {0, 1, 1, 1, 2, 3, 0, 0};
        int[] places = {2, 0, 1, 2, 2, -1, 2, 4};
        for (int i = 0; i < 8; i++) {
            due(x.baleTold(i, 0), bales[i]);
            due(x.baleTold(i, 1), places[i]);
        }
        x = new Counted();
        Scene.FULL.play(x);
        int[] counts = {10, 5, 12, 6, 8};
        for (int what = 0; what < 5; what++) due(x.count(what), counts[what]);
        x = new Counted();
        Scene.LAST_QUARTER.play(x);
        due(x.count(5), 9599);
    }

    // ---- stretches and what is told of them ----

    static void stretch() {
        says(NOTHING_ELSE);
        for (Scene s : new Scene[] {Scene.NEW, Scene.MIDST, Scene.FULL}) {
            for (int bad : outside(0, 5)) refused(s, 1, y -> y.stretch(bad, 4, 10));
            for (int bad : outside(1, 20)) refused(s, 1, y -> y.stretch(REACH, bad, 10));
            for (int bad : outside(0, 99)) refused(s, 1, y -> y.stretch(REACH, 4, bad));
        }
        refused(Scene.FULL, 2, y -> y.stretch(REACH, 4, 10));
        refused(Scene.FULL, 2, y -> y.stretch(ICE, 20, 99));
    }

    static void gauge() {
        says(NOTHING_ELSE);
        for (int bad : outside(0, 99)) refused(1, y -> y.gauge(bad, 0));
        for (int bad : outside(-20, 40)) {
            refused(1, y -> y.gauge(2, bad));
            refused(1, y -> y.gauge(50, bad));
            refused(1, y -> y.gauge(100, bad));
            refused(Scene.NEW, 1, y -> y.gauge(0, bad));
        }
    }

    static void shift() {
        says(NOTHING_ELSE);
        for (int bad : outside(0, 6)) refused(1, y -> y.shift(bad, 0, 1));
        for (int bad : outside(0, 99)) refused(1, y -> y.shift(CROSSING, bad, 1));
        for (int bad : outside(-20, 20)) refused(1, y -> y.shift(BAR, 0, bad));
        for (int k : new int[] {REACH, BEND, LOCK, ICE}) refused(3, y -> y.shift(k, 0, 1));
        refused(Scene.NEW, 1, y -> y.shift(0, 0, 1));
    }

    static void shiftOnSeveralGrounds() {
        says(LOWEST);
        for (int k : new int[] {REACH, BEND, LOCK, ICE}) {
            refused(1, y -> y.shift(k, 100, 1));
            refused(1, y -> y.shift(k, -1, 1));
            refused(1, y -> y.shift(k, 0, 21));
            refused(1, y -> y.shift(k, 0, -21));
        }
    }

    static void coldAndLight() {
        says(NOTHING_ELSE);
        for (int bad : outside(0, 99)) {
            refused(1, y -> y.cold(bad, true));
            refused(1, y -> y.cold(bad, false));
        }
        for (int bad : outside(0, 6)) {
            refused(1, y -> y.light(bad, true));
            refused(1, y -> y.light(bad, false));
        }
        for (int k : new int[] {REACH, BAR, BEND, LOCK, ICE}) {
            refused(3, y -> y.light(k, true));
            refused(3, y -> y.light(k, false));
        }
        refused(Scene.NEW, 1, y -> y.light(0, true));
    }

    // ---- boats and bales ----

    static void boat() {
        says(NOTHING_ELSE);
        for (Scene s : new Scene[] {Scene.MIDST, Scene.FULL}) {
            for (int bad : outside(0, s == Scene.FULL ? 10 : 7)) refused(s, 1, y -> y.boat(bad, 9, 9, 9));
            for (int bad : outside(1, 30)) refused(s, 1, y -> y.boat(0, bad, 9, 9));
            for (int bad : outside(1, 999)) refused(s, 1, y -> y.boat(0, 9, bad, 9));
            for (int bad : outside(1, 99)) refused(s, 1, y -> y.boat(0, 9, 9, bad));
        }
        refused(Scene.FULL, 2, y -> y.boat(0, 9, 9, 9));
        refused(Scene.NEW, 1, y -> y.boat(1, 9, 9, 9));
    }

    static void bale() {
        says(NOTHING_ELSE);
        for (Scene s : new Scene[] {Scene.MIDST, Scene.FULL}) {
            for (int bad : outside(0, s == Scene.FULL ? 10 : 7)) {
                refused(s, 1, y -> y.bale(bad, 0, 9, 9));
                refused(s, 1, y -> y.bale(0, bad, 9, 9));
            }
            for (int l = 0; l <= 7; l += 7) {
                int same = l;
                refused(s, 1, y -> y.bale(same, same, 9, 9));
            }
            for (int bad : outside(1, 200)) refused(s, 1, y -> y.bale(0, 1, bad, 9));
            for (int bad : outside(0, 999)) refused(s, 1, y -> y.bale(0, 1, 9, bad));
        }
        refused(Scene.FULL, 2, y -> y.bale(0, 1, 9, 9));
        refused(Scene.NEW, 1, y -> y.bale(0, 0, 9, 9));
    }

    static void lade() {
        says(NOTHING_ELSE);
        for (int bad : outside(0, 7)) refused(1, y -> y.lade(bad, 0));
        for (int bad : outside(0, 3)) refused(1, y -> y.lade(0, bad));
        refused(3, y -> y.lade(7, 0));
        refused(3, y -> y.lade(1, 0));
        refused(3, y -> y.lade(2, 0));
        refused(3, y -> y.lade(2, 1));
        refused(3, y -> y.lade(4, 0));
        refused(3, y -> y.lade(5, 0));
        refused(3, y -> y.lade(6, 0));
        for (int bale = 0; bale < 8; bale++) {
            for (int b = 1; b < 4; b++) {
                int which = bale, boat = b;
                refused(3, y -> y.lade(which, boat));
            }
        }
    }

    static void ladeOnSeveralGrounds() {
        says(LOWEST);
        for (int bad : outside(0, 7)) for (int b : new int[] {1, 2, 4, -1}) refused(1, y -> y.lade(bad, b));
        for (int bad : outside(0, 3)) for (int bale : new int[] {4, 5, 7, 8}) refused(1, y -> y.lade(bale, bad));
    }

    static void landAndLose() {
        says(NOTHING_ELSE);
        for (int bad : outside(0, 7)) {
            refused(1, y -> y.land(bad));
            refused(1, y -> y.lose(bad));
        }
        for (int bale : new int[] {0, 4, 5, 6, 7}) {
            refused(3, y -> y.land(bale));
            refused(3, y -> y.lose(bale));
        }
        refused(3, y -> y.land(2));
        refused(3, y -> y.land(3));
        refused(Scene.NEW, 1, y -> y.land(0));
        refused(Scene.NEW, 1, y -> y.lose(0));
    }

    // ---- boats on their way ----

    static void leave() {
        says(NOTHING_ELSE);
        for (boolean down : new boolean[] {true, false}) {
            for (int bad : outside(0, 3)) refused(1, y -> y.leave(bad, down));
            refused(21, y -> y.leave(1, down));
            refused(21, y -> y.leave(2, down));
            refused(24, y -> y.leave(3, down));
            refused(Scene.NEW, 1, y -> y.leave(0, down));
        }
    }

    static void leaveWhereThereIsNoStretch() {
        says(NOTHING_ELSE);
        for (boolean down : new boolean[] {true, false}) {
            x = new Counted();
            Scene.MIDST.play(x);
            x.boat(down ? 7 : 0, 9, 9, 1);
            no(22, x.leave(4, down));
            due(x.boatTold(4, 0), 0);
            due(x.boatTold(4, 1), down ? 7 : 0);
            due(x.boatTold(4, 5), 1);
            for (int k = 0; k < 7; k++) due(x.knows(4, k, 1), NO);
        }
    }

    static void leaveAgainstWhatItKnowsAndWithoutWood() {
        says(LOWEST);
        river(CROSSING);
        x.boat(0, 11, 9, 4);
        x.boat(0, 11, 9, 4);
        x.go(71);
        done(x.leave(0, DOWN), 0);
        x.gauge(0, 1);
        x.off(0);
        no(23, x.leave(0, DOWN));
        x.go(1);
        no(24, x.leave(1, DOWN));
        no(23, x.leave(0, DOWN));
        for (int b = 0; b < 2; b++) {
            due(x.boatTold(b, 0), 0);
            due(x.boatTold(b, 1), 0);
            due(x.boatTold(b, 5), 4);
        }
        due(x.knows(0, 0, 0), 10);
        due(x.knows(0, 0, 1), 71);
        due(x.knows(1, 0, 0), NO);
    }

    static void off() {
        says(NOTHING_ELSE);
        for (int bad : outside(0, 3)) refused(1, y -> y.off(bad));
        for (int b = 0; b < 4; b++) {
            int boat = b;
            refused(3, y -> y.off(boat));
        }
        refused(Scene.NEW, 1, y -> y.off(0));
    }

    static void go() {
        says(NOTHING_ELSE);
        for (Scene s : new Scene[] {Scene.NEW, Scene.MIDST, Scene.LAST_QUARTER}) {
            for (int bad : outside(1, 200)) refused(s, 1, y -> y.go(bad));
        }
        refused(Scene.LAST_QUARTER, 2, y -> y.go(1));
        refused(Scene.LAST_QUARTER, 2, y -> y.go(200));
    }

    static void yardAndWood() {
        says(NOTHING_ELSE);
        for (int bad : outside(0, 7)) refused(1, y -> y.yard(bad, 9));
        for (int bad : outside(0, 99)) refused(1, y -> y.yard(2, bad));
        for (int bad : outside(0, 3)) refused(1, y -> y.wood(bad, 1));
        for (int bad : outside(1, 99)) {
            refused(1, y -> y.wood(0, bad));
            refused(1, y -> y.wood(1, bad));
            refused(1, y -> y.wood(3, bad));
        }
        refused(3, y -> y.wood(0, 5));
        refused(3, y -> y.wood(0, 99));
        refused(3, y -> y.wood(1, 1));
        refused(3, y -> y.wood(2, 1));
        refused(3, y -> y.wood(3, 5));
        refused(Scene.NEW, 1, y -> y.yard(1, 0));
    }

    static void woodWhereNoneIsSold() {
        says(NOTHING_ELSE);
        river(REACH);
        x.boat(0, 1, 9, 9);
        x.leave(0, DOWN);
        x.go(4);
        no(3, x.wood(0, 1));
        no(3, x.wood(0, 9));
        no(1, x.wood(0, 100));
        due(x.boatTold(0, 5), 5);
    }

    // ---- trips, rules and images ----

    static void trip() {
        says(NOTHING_ELSE);
        for (Scene s : new Scene[] {Scene.MIDST, Scene.FULL}) {
            for (int bad : outside(0, s == Scene.FULL ? 10 : 7)) {
                refused(s, 1, y -> y.trip(bad, 0, 0));
                refused(s, 1, y -> y.trip(0, bad, 0));
            }
            for (int bad : outside(0, 9)) refused(s, 1, y -> y.trip(0, 1, bad));
            refused(s, 1, y -> y.trip(3, 3, 0));
        }
        refused(Scene.FULL, 2, y -> y.trip(0, 1, 0));
        refused(Scene.NEW, 1, y -> y.trip(0, 0, 0));
    }

    static void rule() {
        says(NOTHING_ELSE);
        for (Scene s : new Scene[] {Scene.NEW, Scene.MIDST, Scene.FULL}) {
            for (int bad : outside(0, 5)) refused(s, 1, y -> y.rule(bad, 0, 99));
            for (int bad : outside(0, 2)) refused(s, 1, y -> y.rule(0, bad, 99));
            for (int bad : outside(0, 9999)) refused(s, 1, y -> y.rule(0, 0, bad));
            for (int bad : new int[] {100, 5049, 9998, -100}) refused(s, 1, y -> y.rule(0, 0, bad));
        }
        refused(Scene.FULL, 2, y -> y.rule(0, 0, 99));
    }

    static void back() {
        says(NOTHING_ELSE);
        refused(Scene.NEW, 3, y -> y.back());
        refused(Scene.GONE_BACK, 2, y -> y.back());
    }

    // ---- acts, sheets, gauges and the host ----

    static void act() {
        says(NOTHING_ELSE);
        for (int bad : outside(0, 6)) refused(1, y -> y.act(bad, 0, 5));
        for (int bad : outside(0, 3)) refused(1, y -> y.act(0, bad, 5));
        refused(Scene.NEW, 1, y -> y.act(0, 0, 5));
    }

    static void sheet() {
        says(NOTHING_ELSE);
        for (int bad : outside(0, 3)) {
            refused(1, y -> y.sheet(bad, SHORTS, 5));
            refused(1, y -> y.sheet(bad, -1, 5));
        }
        for (int k = 0; k < 4; k++) {
            int which = k;
            for (int bad : outside(-1, 2)) refused(1, y -> y.sheet(which, bad, 5));
            for (int bad : outside(0, 40)) refused(1, y -> y.sheet(which, SHORTS, bad));
        }
    }

    static void cell() {
        says(NOTHING_ELSE);
        for (int bad : outside(0, 3)) refused(1, y -> y.cell(bad, 0, 9));
        for (int bad : outside(-1000, 1000)) {
            for (int k = 0; k < 4; k++) {
                int which = k;
                refused(1, y -> y.cell(which, 0, bad));
            }
        }
        refused(10, y -> y.cell(MISSING, 0, 9));
        for (int bad : outside(0, 5)) refused(12, y -> y.cell(BYTES, bad, 9));
        for (int bad : outside(0, 4)) refused(12, y -> y.cell(SHORTS, bad, 9));
        for (int bad : outside(0, 3)) refused(12, y -> y.cell(FLOATS, bad, 9));
    }

    static void cellOnSeveralGrounds() {
        says(LOWEST);
        for (int bad : outside(0, 39)) {
            refused(1, y -> y.cell(4, bad, 9));
            refused(1, y -> y.cell(SHORTS, bad, 1001));
            refused(1, y -> y.cell(MISSING, bad, -1001));
            refused(10, y -> y.cell(MISSING, bad, 9));
        }
    }

    static void none() {
        says(NOTHING_ELSE);
        for (int bad : outside(0, 3)) refused(1, y -> y.none(bad, 0));
        refused(10, y -> y.none(MISSING, 0));
        refused(11, y -> y.none(BYTES, 0));
        refused(11, y -> y.none(SHORTS, 0));
        for (int bad : outside(0, 3)) refused(12, y -> y.none(FLOATS, bad));
    }

    static void noneOnSeveralGrounds() {
        says(LOWEST);
        for (int bad : outside(0, 39)) {
            refused(1, y -> y.none(4, bad));
            refused(10, y -> y.none(MISSING, bad));
            refused(11, y -> y.none(BYTES, bad));
            refused(11, y -> y.none(SHORTS, bad));
        }
    }

    static void gauges() {
        says("(but of gauges() what stood ahead came)");
        for (int bad : outside(0, 99)) refused(1, y -> y.gauges(bad, FLOATS, 0, 1));
        for (int bad : outside(0, 3)) refused(1, y -> y.gauges(0, bad, 0, 1));
        for (int bad : outside(0, 40)) refused(1, y -> y.gauges(0, FLOATS, 0, bad));
        refused(1, y -> y.gauges(98, FLOATS, 0, 3));
        refused(1, y -> y.gauges(60, FLOATS, 1, 41));
        for (int n = 0; n <= 1; n++) {
            int many = n;
            refused(10, y -> y.gauges(0, MISSING, 0, many));
            refused(11, y -> y.gauges(0, BYTES, 0, many));
            refused(11, y -> y.gauges(0, SHORTS, 0, many));
        }
        for (int bad : outside(0, 3)) {
            refused(12, y -> y.gauges(0, FLOATS, bad, 1));
            refused(12, y -> y.gauges(0, FLOATS, bad, 40));
        }
    }

    static void gaugesOnSeveralGrounds() {
        says(LOWEST);
        for (int bad : outside(0, 39)) {
            refused(1, y -> y.gauges(100, FLOATS, bad, 1));
            refused(1, y -> y.gauges(0, FLOATS, bad, 41));
            refused(1, y -> y.gauges(99, FLOATS, bad, 2));
            refused(10, y -> y.gauges(0, MISSING, bad, 1));
            refused(11, y -> y.gauges(0, SHORTS, bad, 1));
            refused(11, y -> y.gauges(0, BYTES, bad, 0));
        }
        for (int k : new int[] {BYTES, SHORTS, MISSING}) {
            refused(1, y -> y.gauges(-1, k, 0, 1));
            refused(1, y -> y.gauges(0, k, 0, -1));
            refused(1, y -> y.gauges(99, k, 0, 2));
        }
    }

    static void forge() {
        says(NOTHING_ELSE);
        for (int bad : outside(0, 6)) refused(1, y -> y.forge(bad, 1, 1));
        for (int what = 0; what <= 6; what++) {
            int which = what;
            for (int bad : outside(-100, 100)) {
                refused(1, y -> y.forge(which, bad, 0));
                refused(1, y -> y.forge(which, 0, bad));
            }
        }
        refused(10, y -> y.forge(0, 0, 7));
        refused(10, y -> y.forge(0, 1, 9));
        refused(11, y -> y.forge(0, 2, CROSSING));
        refused(13, y -> y.forge(1, -1, 0));
        refused(14, y -> y.forge(4, 0, REACH));
        refused(15, y -> y.forge(5, 0, 0));
        refused(10, y -> y.forge(6, 2, 0));
    }

    static void forgeOfSheets() {
        says(LOWEST);
        for (int n : new int[] {-100, -1, 0, 5, 100}) {
            refused(10, y -> y.forge(2, n, MISSING));
            refused(11, y -> y.forge(2, n, BYTES));
            refused(11, y -> y.forge(2, n, FLOATS));
            refused(10, y -> y.forge(3, n, MISSING));
            refused(11, y -> y.forge(3, n, SHORTS));
            refused(11, y -> y.forge(3, n, FLOATS));
        }
        for (int n : new int[] {-100, -1, 5, 100}) refused(12, y -> y.forge(2, n, SHORTS));
        for (int n : new int[] {-100, -1, 4, 6, 100}) refused(12, y -> y.forge(3, n, BYTES));
    }
}
