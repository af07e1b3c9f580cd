/** Boundaries of counts, acts and the trace, sheets, gauges out of a sheet, what the host does, and STATUS. */
final class HostBounds extends Bench {
    private static final int REACH = 0, BAR = 1, BEND = 2, CROSSING = 3, LOCK = 4, ICE = 5;
    private static final int MISSING = -1, BYTES = 0, SHORTS = 1, FLOATS = 2;
    private static final int BEAR = 0, MOVE = 1, TO_BAR = 2, TELL = 3;

    // ---- a new object, and counts ----

    static void aNewObject() {
        says("`RiverSteamers()`: LANDING 0 alone; QUARTER 0.");
        int[] counts = {0, 0, 0, 0, 0, 0, 0, 0, 1, 0};
        for (int what = 0; what <= 9; what++) due(x.count(what), counts[what]);
        due(x.status(), 0);
        no(1, x.yard(1, 5));
        done(x.yard(0, 5), 0);
        no(1, x.boat(1, 1, 1, 1));
        no(1, x.bale(0, 1, 1, 1));
        no(1, x.trip(0, 1, 1));
        done(x.boat(0, 1, 1, 1), 0);
        no(3, x.back());
        for (int k = 0; k < 4; k++) no(10, x.cell(k, 0, 0));
        due(x.trace(0), -1);
        due(x.lights(), 0);
        done(x.gauge(0, 0), 1);
        fresh();
        done(x.go(1), 1);
    }

    static void theConstants() {
        says("NONE is -1; NO, where -1 may be an answer, -1000.");
        due(RiverSteamers.NONE, -1);
        due(RiverSteamers.NO, -1000);
    }

    static void whatIsCounted() {
        says("How many: 0 STRETCHES, 1 BOATS, 2 BALES, 3 TRIPS, 4 RULES, 5 THE QUARTER, 6 RATES that were PAID,"
            + " 7 BOATS AGROUND, 8 whether it is NIGHT (1, 0), 9 THE TRACE's bodies. -1: another.");
        river(REACH, REACH, REACH);
        boat(0, 1);
        boat(0, 1);
        for (int i = 0; i < 4; i++) x.bale(0, 1, 5, 20 + i);
        for (int i = 0; i < 5; i++) x.trip(0, 1, 0);
        for (int i = 0; i < 6; i++) x.rule(0, 0, 0);
        x.act(0, TELL, 0);
        x.lade(1, 0);
        x.leave(0, DOWN);
        x.go(30);
        x.land(1);
        int[] counts = {3, 2, 4, 5, 6, 30, 21, 0, 0, 4};
        for (int what = 0; what <= 9; what++) due(x.count(what), counts[what]);
        for (int bad : outside(0, 9)) due(x.count(bad), -1);
    }

    static void boatsAgroundAreCounted() {
        says("7 BOATS AGROUND");
        river(REACH);
        for (int i = 0; i < 5; i++) boat(0, i < 4 ? 11 : 1);
        for (int i = 0; i < 5; i++) {
            due(x.count(7), i);
            x.leave(i, DOWN);
        }
        due(x.count(7), 4);
        x.gauge(0, 1);
        for (int i = 0; i < 4; i++) {
            x.off(i);
            due(x.count(7), 3 - i);
        }
    }

    // ---- acts ----

    /** Stretch k of kind k, with numbers, lengths and depths that differ. */
    private static void allKinds() {
        fresh();
        for (int kind = 0; kind <= 5; kind++) x.stretch(kind, 3 + kind, 20 + 7 * kind);
    }

    private static int bear(int k, int v) {
        int d = 20 + 7 * k, l = 3 + k;
        if (k == BAR) return v + d - l;
        if (k == CROSSING) return v + k + d - l;
        return v + d;
    }

    private static int move(int k, int v) {
        int twice = bear(k, v) * 2;
        if (k == BEND) return twice + (3 + k - k);
        return k == LOCK ? twice ^ 20 + 7 * k : twice;
    }

    private static int bar(int k, int v) {
        if (k == CROSSING) return (v - k) * 3;
        return k == LOCK ? v + 3 + k - k : v - k;
    }

    private static int tell(int k, int v) {
        if (k == BAR || k == CROSSING) return move(k, v + 1) ^ bar(k, v + 1);
        int told = move(k, v) ^ bar(k, v);
        return k == ICE ? bar(k, v) - told : told;
    }

    static void actsWithAnyNumber() {
        says("ACTS of STRETCHES, with a number x (32 bits, wrapping): 0 bear, 1 move, 2 bar, 3 tell");
        int[] values = {0, 1, -1, 77, -77, MOST, MOST - 1, MOST - 60, LEAST, LEAST + 1, LEAST + 60, 1 << 30, -1 << 30};
        for (int k = 0; k <= 5; k++) {
            allKinds();
            for (int v : values) {
                done(x.act(k, BEAR, v), bear(k, v));
                done(x.act(k, MOVE, v), move(k, v));
                done(x.act(k, TO_BAR, v), bar(k, v));
                done(x.act(k, TELL, v), tell(k, v));
            }
        }
    }

    static void actsWithTheLeastAndTheLargestStretch() {
        says("n is its number, d its DEPTH, l its LENGTH");
        x.stretch(CROSSING, 1, 0);
        for (int k = 1; k < 9; k++) x.stretch(REACH, 1, 0);
        x.stretch(CROSSING, 20, 99);
        done(x.act(0, BEAR, 0), -1);
        done(x.act(9, BEAR, 0), 88);
        done(x.act(0, TO_BAR, 5), 15);
        done(x.act(9, TO_BAR, 5), -12);
        done(x.act(9, BEAR, MOST), LEAST + 87);
        done(x.act(0, BEAR, LEAST), MOST);
    }

    static void noSuchStretchOrAct() {
        says("An ACT of a STRETCH with x: what it answers (any number). STATUS 1.");
        no(1, x.act(0, 0, 0));
        allKinds();
        done(x.act(CROSSING, TELL, 9), tell(CROSSING, 9));
        for (int bad : outside(0, 5)) no(1, x.act(bad, 0, 0));
        for (int bad : outside(0, 3)) no(1, x.act(0, bad, 0));
        no(1, x.act(MOST, LEAST, LEAST));
        due(x.count(9), 8);
        due(x.trace(0), 21);
        due(x.trace(7), 12);
        done(x.act(0, TO_BAR, -1), -1);
        done(x.act(BAR, BEAR, -1 - 27 + 4), -1);
    }

    private static void traced(int k, int act, int... bodies) {
        x.act(k, act, 5);
        due(x.count(9), bodies.length);
        for (int i = 0; i < bodies.length; i++) due(x.trace(i), bodies[i]);
        due(x.trace(bodies.length), -1);
    }

    static void bodiesOfReachAndBar() {
        says("BODIES, each with its number: ```text REACH: 10 bear: x + d. 11 move: bear(x) * 2. 12 bar: x - n."
            + " 13 tell: move(x) ^ bar(x)."
            + " BAR: 20 bear: super.bear(x) - l. 21 tell: super.tell(x + 1).");
        allKinds();
        traced(REACH, BEAR, 10);
        traced(REACH, MOVE, 11, 10);
        traced(REACH, TO_BAR, 12);
        traced(REACH, TELL, 13, 11, 10, 12);
        traced(BAR, BEAR, 20, 10);
        traced(BAR, MOVE, 11, 20, 10);
        traced(BAR, TO_BAR, 12);
        traced(BAR, TELL, 21, 13, 11, 20, 10, 12);
    }

    static void bodiesOfBendAndCrossing() {
        says("BEND: 30 move: super.move(x) + bar(l). CROSSING: 40 bar: super.bar(x) * 3. 41 bear: super.bear(x + n).");
        allKinds();
        traced(BEND, BEAR, 10);
        traced(BEND, MOVE, 30, 11, 10, 12);
        traced(BEND, TO_BAR, 12);
        traced(BEND, TELL, 13, 30, 11, 10, 12, 12);
        traced(CROSSING, BEAR, 41, 20, 10);
        traced(CROSSING, MOVE, 11, 41, 20, 10);
        traced(CROSSING, TO_BAR, 40, 12);
        traced(CROSSING, TELL, 21, 13, 11, 41, 20, 10, 40, 12);
    }

    static void bodiesOfLockAndIce() {
        says("LOCK: 50 move: super.move(x) ^ d. 51 bar: super.bar(x + l). ICE: 60 tell: bar(x) - super.tell(x).");
        allKinds();
        traced(LOCK, BEAR, 10);
        traced(LOCK, MOVE, 50, 11, 10);
        traced(LOCK, TO_BAR, 51, 12);
        traced(LOCK, TELL, 13, 50, 11, 10, 51, 12);
        traced(ICE, BEAR, 10);
        traced(ICE, MOVE, 11, 10);
        traced(ICE, TO_BAR, 12);
        traced(ICE, TELL, 60, 12, 13, 11, 10, 12);
    }

    static void theTraceIsOfTheLatestAct() {
        says("THE TRACE: the numbers of the bodies that ran in the latest act(), in the order in which they began"
            + " (what stands further left is worked out first); the first 50 are kept.");
        due(x.count(9), 0);
        due(x.trace(0), -1);
        allKinds();
        traced(CROSSING, TELL, 21, 13, 11, 41, 20, 10, 40, 12);
        traced(REACH, TO_BAR, 12);
        due(x.trace(1), -1);
        due(x.trace(7), -1);
        for (int i = 0; i < 60; i++) {
            x.act(CROSSING, TELL, i);
            due(x.count(9), 8);
        }
    }

    static void theTracesBodies() {
        says("`int trace(int i)`: THE TRACE's i-th body. -1: none such.");
        for (int bad : outside(0, 0)) due(x.trace(bad), -1);
        allKinds();
        x.act(CROSSING, TELL, 0);
        due(x.trace(0), 21);
        due(x.trace(7), 12);
        for (int bad : outside(0, 7)) due(x.trace(bad), -1);
        due(x.trace(49), -1);
        due(x.trace(50), -1);
    }

    static void theBodyOfTheKindOrOneAbove() {
        says("bear(..) and so on: the body of the STRETCH's KIND, or, if that has none, of the next KIND above that has"
            + " one; super.bear(..): so from the KIND above the body's on.");
        x.stretch(REACH, 1, 1);
        for (int kind = 0; kind <= 5; kind++) x.stretch(kind, 10, 50);
        done(x.act(1, MOVE, 1), 102);
        done(x.act(2, MOVE, 1), 82);
        done(x.act(2, TO_BAR, 1), -1);
        done(x.act(3, MOVE, 1), 102 + 10 - 3);
        done(x.act(4, BEAR, 1), 1 + 4 + 50 - 10);
        done(x.act(4, TO_BAR, 1), -9);
        done(x.act(5, MOVE, 1), 102 ^ 50);
        done(x.act(5, TO_BAR, 1), 6);
        done(x.act(6, MOVE, 1), 102);
        done(x.act(6, TELL, 1), -5 - (102 ^ -5));
        traced(6, TELL, 60, 12, 13, 11, 10, 12);
    }

    // ---- sheets ----

    private static int told(int day, int sheet, int i) {
        x.gauges(day, sheet, i, 1);
        return x.height(day);
    }

    static void fourSheetsMissingAtFirst() {
        says("SHEETS 0 .. 3 are rows of numbers, or missing (as all are at first)");
        for (int k = 0; k < 4; k++) {
            no(10, x.cell(k, 0, 0));
            no(10, x.none(k, 0));
            no(10, x.gauges(0, k, 0, 0));
            no(10, x.forge(2, 0, k));
            no(10, x.forge(3, 0, k));
        }
        for (int bad : outside(0, 3)) {
            no(1, x.sheet(bad, SHORTS, 1));
            no(1, x.sheet(bad, MISSING, 1));
            no(1, x.cell(bad, 0, 0));
            no(1, x.none(bad, 0));
            no(1, x.gauges(0, bad, 0, 0));
        }
        for (int k = 0; k < 4; k++) no(10, x.cell(k, 0, 0));
    }

    static void aSheetOfASortWithUpTo40Numbers() {
        says("A SHEET of a sort (0 .. 2) with n (0 .. 40) numbers, all 0");
        for (int sort = 0; sort <= 2; sort++) {
            for (int bad : outside(0, 40)) no(1, x.sheet(sort, sort, bad));
            done(x.sheet(sort, sort, 40), 1);
            done(x.cell(sort, 39, 1), 1);
            no(12, x.cell(sort, 40, 1));
            for (int bad : outside(0, 40)) no(1, x.sheet(sort, sort, bad));
            done(x.cell(sort, 39, 1), 1);
            done(x.sheet(sort, sort, 1), 1);
            done(x.cell(sort, 0, 1), 1);
            no(12, x.cell(sort, 1, 1));
            done(x.sheet(sort, sort, 0), 1);
            no(12, x.cell(sort, 0, 1));
        }
        for (int bad : outside(-1, 2)) no(1, x.sheet(3, bad, 1));
        no(10, x.cell(3, 0, 1));
    }

    static void aNewSheetHasZerosAlone() {
        says("numbers, all 0; sort -1");
        x.sheet(0, SHORTS, 40);
        for (int i = 0; i < 40; i++) done(x.forge(2, i, 0), 0);
        for (int i = 0; i < 40; i++) x.cell(0, i, 7);
        x.sheet(0, SHORTS, 40);
        for (int i = 0; i < 40; i++) done(x.forge(2, i, 0), 0);
        x.sheet(1, FLOATS, 3);
        x.cell(1, 0, 9);
        x.none(1, 1);
        x.gauge(5, 3);
        x.gauge(6, 3);
        x.sheet(1, FLOATS, 3);
        due(told(5, 1, 0), 0);
        due(told(6, 1, 1), 0);
        x.sheet(1, BYTES, 4);
        x.cell(1, 1, 7);
        x.sheet(1, BYTES, 4);
        done(x.forge(3, 3, 1), 0);
    }

    static void aSheetChangesItsSort() {
        says("of sort 0 (bytes), 1 (shorts), 2 (floats; some may be no number)");
        x.sheet(2, FLOATS, 3);
        done(x.none(2, 0), 1);
        x.sheet(2, SHORTS, 3);
        no(11, x.none(2, 0));
        done(x.forge(2, 0, 2), 0);
        x.cell(2, 0, 300);
        x.sheet(2, BYTES, 3);
        no(11, x.forge(2, 0, 2));
        done(x.forge(3, 1, 2), 0);
        x.sheet(2, FLOATS, 3);
        no(11, x.forge(3, 1, 2));
        due(told(0, 2, 0), 0);
    }

    static void aSheetIsTakenAway() {
        says("sort -1: it is missing from now on (n does not matter). Answers 1. STATUS 1.");
        for (int n : new int[] {0, 40, -1, 41, LEAST, MOST}) {
            x.sheet(0, SHORTS, 3);
            x.sheet(1, SHORTS, 3);
            done(x.sheet(0, MISSING, n), 1);
            no(10, x.cell(0, 0, 0));
            no(10, x.forge(2, 0, 0));
            done(x.cell(1, 0, 0), 1);
            done(x.sheet(0, MISSING, n), 1);
        }
    }

    static void theFourSheetsAreTheirOwn() {
        says("SHEETS 0 .. 3 are rows of numbers");
        for (int k = 0; k < 4; k++) x.sheet(k, SHORTS, 2);
        for (int k = 0; k < 4; k++) x.cell(k, 1, 100 + k);
        for (int k = 0; k < 4; k++) {
            done(x.forge(2, 1, k), 100 + k);
            done(x.forge(2, 0, k), 0);
        }
    }

    // ---- cell and none ----

    static void cellsTakeFromMinus1000To1000() {
        says("Number i of a SHEET becomes v (-1000 .. 1000;");
        x.sheet(0, SHORTS, 2);
        x.sheet(1, BYTES, 2);
        x.sheet(2, FLOATS, 2);
        for (int k = 0; k < 3; k++) {
            for (int bad : outside(-1000, 1000)) no(1, x.cell(k, 0, bad));
            done(x.cell(k, 1, -1000), 1);
            done(x.cell(k, 1, 1000), 1);
        }
        done(x.forge(2, 1, 0), 1000);
        done(x.forge(2, 0, 0), 0);
        done(x.cell(0, 0, -1000), 1);
        done(x.forge(2, 0, 0), -1000);
        no(1, x.cell(0, 0, -1001));
        done(x.forge(2, 0, 0), -1000);
    }

    static void bytesKeepTheLowest8Bits() {
        says("of sort 0 cut to its lowest 8 bits, with sign");
        for (int from = -1000; from <= 1000; from += 100) {
            fresh();
            x.sheet(3, BYTES, 2);
            for (int v = from; v < from + 100 && v <= 1000; v++) {
                int low = Math.floorMod(v, 256);
                x.cell(3, 1, v);
                done(x.forge(3, 1, 3), low < 128 ? low : low - 256);
            }
        }
    }

    static void floatsKeepHalves() {
        says("of floats v halves");
        x.sheet(0, FLOATS, 1);
        int[] values = {0, 1, -1, 2, -2, 3, -3, 79, 80, 81, -39, -40, -41};
        int[] heights = {0, 0, 0, 1, -1, 1, -1, 39, 40, 40, -19, -20, -20};
        for (int i = 0; i < values.length; i++) {
            x.cell(0, 0, values[i]);
            x.gauge(i, 7);
            due(told(i, 0, 0), heights[i]);
        }
    }

    static void cellsOfPlacesThereAre() {
        says("Answers 1. STATUS 1, 10, 12.");
        for (int sort = 0; sort <= 2; sort++) {
            x.sheet(sort, sort, 3);
            for (int bad : outside(0, 2)) no(12, x.cell(sort, bad, 5));
            for (int i = 0; i < 3; i++) done(x.cell(sort, i, 5 + i), 1);
        }
        for (int i = 0; i < 3; i++) done(x.forge(2, i, 1), 5 + i);
        done(x.forge(3, 1, 0), 6);
        done(x.forge(3, 2, 0), 6 + 7);
    }

    static void noneIsOfFloatsAlone() {
        says("Number i of a SHEET of floats becomes no number. Answers 1. STATUS 1 (no such SHEET), 10, 11, 12.");
        for (int sort = 0; sort <= 2; sort++) x.sheet(sort, sort, 3);
        no(10, x.none(3, 0));
        no(11, x.none(BYTES, 0));
        no(11, x.none(SHORTS, 0));
        for (int bad : outside(0, 2)) {
            no(12, x.none(FLOATS, bad));
            no(11, x.none(SHORTS, bad));
            no(10, x.none(3, bad));
        }
        for (int bad : outside(0, 3)) no(1, x.none(bad, 0));
        x.gauge(9, 33);
        for (int i = 0; i < 3; i++) done(x.none(FLOATS, i), 1);
        done(x.none(FLOATS, 0), 1);
        done(x.gauges(8, FLOATS, 0, 3), 1);
        due(x.height(8), 33);
        done(x.cell(FLOATS, 1, 8), 1);
        done(x.gauges(8, FLOATS, 0, 3), 1);
        due(x.height(9), 4);
    }

    // ---- gauges ----

    private static void floats(int... halves) {
        fresh();
        x.sheet(0, FLOATS, halves.length);
        for (int i = 0; i < halves.length; i++) x.cell(0, i, halves[i]);
    }

    static void gaugesOfUpTo40Numbers() {
        says("HEIGHTS of DAYS from one on by n (0 .. 40) numbers of a SHEET that is taken for floats");
        x.sheet(0, FLOATS, 40);
        for (int i = 0; i < 40; i++) x.cell(0, i, 2 * i);
        for (int bad : outside(0, 40)) no(1, x.gauges(0, 0, 0, bad));
        done(x.gauges(0, 0, 0, 0), 0);
        done(x.gauges(50, 0, 39, 1), 1);
        due(x.height(50), 39);
        done(x.gauges(10, 0, 0, 40), 41);
        for (int i = 0; i < 40; i++) due(x.height(10 + i), i);
        done(x.gauges(11, 0, 0, 40), 41);
        due(x.height(50), 39);
        due(x.height(10), 0);
        due(x.height(11), 0);
        done(x.gauges(51, 0, 0, 1), 42);
    }

    static void gaugesUpToDay99() {
        says("STATUS 1 (no such SHEET, DAY; a DAY beyond 99)");
        x.sheet(0, FLOATS, 40);
        for (int bad : outside(0, 99)) {
            no(1, x.gauges(bad, 0, 0, 1));
            no(1, x.gauges(bad, 0, 0, 0));
        }
        for (int bad : outside(0, 3)) no(1, x.gauges(0, bad, 0, 1));
        no(1, x.gauges(99, 0, 0, 2));
        no(1, x.gauges(61, 0, 0, 40));
        no(1, x.gauges(98, 0, 0, 3));
        done(x.gauges(99, 0, 0, 0), 0);
        done(x.gauges(99, 0, 0, 1), 1);
        done(x.gauges(98, 0, 0, 2), 2);
        done(x.gauges(60, 0, 0, 40), 40);
        done(x.gauges(0, 0, 0, 40), 80);
    }

    static void aDayBeyond99ThatWouldBeLeftOut() {
        says("STATUS 1 (no such SHEET, DAY; a DAY beyond 99)");
        floats(4, 82);
        x.none(0, 1);
        no(1, x.gauges(99, 0, 0, 2));
        due(x.height(99), 0);
        done(x.gauge(0, 1), 1);
    }

    static void gaugesFromPlaceIOn() {
        says("from place i on, each cut towards 0 to a whole number");
        floats(2, 7, -7, 1, -1, 9);
        done(x.gauges(20, 0, 1, 4), 4);
        int[] heights = {3, -3, 0, 0};
        for (int i = 0; i < 4; i++) due(x.height(20 + i), heights[i]);
        due(x.height(19), 3);
        due(x.height(24), 0);
        done(x.gauges(40, 0, 5, 1), 5);
        due(x.height(40), 4);
    }

    static void whatIsNoHeightIsLeftOut() {
        says("one that is no number, or (cut) outside -20 .. 40, is left out, its DAY stays as it is");
        floats(-43, -42, -41, -40, 80, 81, 82, 83, 1000, -1000, 6);
        x.none(0, 10);
        for (int day = 0; day <= 10; day++) if (day != 9) x.gauge(day, 5);
        done(x.gauges(0, 0, 0, 11), 10);
        int[] heights = {5, 5, -20, -20, 40, 40, 5, 5, 5, 5, 5};
        for (int day = 0; day <= 10; day++) due(x.height(day), heights[day]);
        done(x.gauge(9, 0), 11);
    }

    static void howManyDaysWereToldInAll() {
        says("how many DAYS were told in all");
        floats(2, 4, 6);
        x.gauge(50, 1);
        x.gauge(11, 1);
        done(x.gauges(10, 0, 0, 3), 4);
        done(x.gauges(10, 0, 0, 3), 4);
        done(x.gauges(10, 0, 0, 0), 4);
        x.none(0, 0);
        done(x.gauges(99, 0, 0, 1), 4);
        done(x.gauges(99, 0, 1, 1), 5);
    }

    static void gaugesWithoutASheetOfFloats() {
        says("10 (also with n 0), 11 (likewise)");
        x.sheet(0, BYTES, 3);
        x.sheet(1, SHORTS, 3);
        for (int n = 0; n <= 1; n++) {
            no(10, x.gauges(0, 3, 0, n));
            no(10, x.gauges(0, 3, -1, n));
            no(11, x.gauges(0, 0, 0, n));
            no(11, x.gauges(0, 1, 0, n));
            no(11, x.gauges(0, 1, 3, n));
        }
        done(x.gauge(5, 5), 1);
    }

    static void whatStoodAheadCame() {
        says("12 (what stood ahead came)");
        floats(4, 6, 8);
        no(12, x.gauges(10, 0, 1, 4));
        due(x.height(10), 3);
        due(x.height(11), 4);
        due(x.height(12), 4);
        done(x.gauge(50, 0), 3);
        no(12, x.gauges(20, 0, 3, 1));
        no(12, x.gauges(20, 0, 2, 2));
        due(x.height(20), 4);
        done(x.gauge(50, 0), 4);
        x.none(0, 2);
        no(12, x.gauges(30, 0, 2, 2));
        done(x.gauge(50, 0), 4);
    }

    static void gaugesOutsideFromTheFirstOn() {
        says("12 (what stood ahead came)");
        floats(4, 6, 8);
        for (int bad : outside(0, 2)) {
            no(12, x.gauges(10, 0, bad, 1));
            no(12, x.gauges(10, 0, bad, 40));
        }
        done(x.gauge(50, 0), 1);
        due(x.height(10), 0);
        done(x.gauges(10, 0, 3, 0), 1);
        x.sheet(0, FLOATS, 0);
        done(x.gauges(10, 0, 0, 0), 1);
        no(12, x.gauges(10, 0, 0, 1));
        done(x.gauge(50, 0), 1);
    }

    // ---- the host ----

    static void whatTheHostDoes() {
        says("What the host does, by what (STATUS 1: another; n or k outside -100 .. 100)");
        for (int bad : outside(0, 6)) no(1, x.forge(bad, 1, 1));
        for (int what = 0; what <= 6; what++) {
            for (int bad : outside(-100, 100)) {
                no(1, x.forge(what, bad, 1));
                no(1, x.forge(what, 1, bad));
            }
        }
        for (int k = -100; k <= 100; k += 200) {
            done(x.forge(1, 100, k), 100);
            done(x.forge(5, 100, k), 10);
            done(x.forge(5, -100, k), -10);
            done(x.forge(4, k, k), 0);
            no(10, x.forge(6, k, k));
            no(13, x.forge(1, -100, k));
        }
    }

    static void takenForAKind() {
        says("0 STRETCH k modulo 10 is taken for one whose KIND is n modulo 6 (also for numbers below 0)"
            + " or one under that one (also by others between): 10 (there is no such STRETCH), 11; answers its KIND.");
        no(10, x.forge(0, 0, 0));
        no(10, x.forge(0, 3, 0));
        river(REACH, BAR, BEND, CROSSING, LOCK, ICE);
        for (int n = -100; n <= 100; n += 7) {
            int upper = Math.floorMod(n, 6);
            boolean fits = upper == REACH || upper == BAR || upper == CROSSING;
            for (int k : new int[] {3, 13, 93, -7, -97}) {
                if (fits) done(x.forge(0, n, k), CROSSING);
                else no(11, x.forge(0, n, k));
            }
        }
        for (int k : new int[] {6, 9, 16, 96, 99, -1, -4, -11, -94}) no(10, x.forge(0, 5, k));
        done(x.forge(0, -1, -5), ICE);
        done(x.forge(0, -100, -98), BEND);
        no(11, x.forge(0, -1, -6));
        done(x.forge(0, -6, 100), REACH);
        done(x.forge(0, 96, -100), REACH);
    }

    static void aRowOfNNumbers() {
        says("1 a row of n numbers is made: 13; answers n.");
        for (int n = 0; n <= 100; n++) done(x.forge(1, n, 0), n);
        for (int n : new int[] {-1, -2, -99, -100}) no(13, x.forge(1, n, 0));
    }

    static void takenForShorts() {
        says("2 SHEET k modulo 4 is taken for one of sort 1: 11; its number n: 10, 12; answers it.");
        x.sheet(0, BYTES, 3);
        x.sheet(1, SHORTS, 3);
        x.sheet(2, FLOATS, 3);
        x.cell(1, 0, -1);
        x.cell(1, 2, -1000);
        for (int k : new int[] {1, 5, 97, -3, -99}) {
            done(x.forge(2, 0, k), -1);
            done(x.forge(2, 1, k), 0);
            done(x.forge(2, 2, k), -1000);
            for (int n : new int[] {-1, 3, 100, -100}) no(12, x.forge(2, n, k));
        }
        for (int n : new int[] {-1, 0, 3}) {
            for (int k : new int[] {0, 2, 100, -100, -2}) no(11, x.forge(2, n, k));
            for (int k : new int[] {3, -1, 99, -97}) no(10, x.forge(2, n, k));
        }
        x.sheet(1, SHORTS, 0);
        no(12, x.forge(2, 0, 1));
        x.sheet(1, SHORTS, 40);
        done(x.forge(2, 39, 1), 0);
        no(12, x.forge(2, 40, 1));
    }

    private static void copies(int size, int... sums) {
        x.sheet(1, BYTES, size);
        int[] numbers = {64, 1, -128, 16, 32, 127, 8};
        for (int i = 0; i < size && i < 7; i++) x.cell(1, i, numbers[i]);
        for (int n = 0; n < sums.length; n++) done(x.forge(3, n, 1), sums[n]);
        for (int n = sums.length; n <= 8; n++) no(12, x.forge(3, n, 1));
        for (int n : new int[] {-1, -2, -100, 100}) no(12, x.forge(3, n, 1));
    }

    static void bytesAreCopied() {
        says("3 n numbers of SHEET k modulo 4, taken for one of sort 0 (11), from its number 1 on,"
            + " are copied to a row of 6 from place n on: 10, 12 (n below 0, or they do not stand there in both;"
            + " also if it has no numbers at all); answers their sum.");
        copies(0);
        copies(1, 0);
        copies(2, 0, 1);
        copies(3, 0, 1, -127);
        copies(4, 0, 1, -127, -111);
        copies(5, 0, 1, -127, -111);
        copies(40, 0, 1, -127, -111);
    }

    static void bytesOfWhichSheet() {
        says("3 n numbers of SHEET k modulo 4, taken for one of sort 0 (11)");
        x.sheet(0, SHORTS, 6);
        x.sheet(1, BYTES, 6);
        x.sheet(2, FLOATS, 6);
        x.cell(1, 1, 5);
        for (int k : new int[] {1, 97, -3, -99}) done(x.forge(3, 1, k), 5);
        for (int n : new int[] {-1, 0, 1, 4}) {
            for (int k : new int[] {0, 2, 100, -100, -2}) no(11, x.forge(3, n, k));
            for (int k : new int[] {3, -1, 99, -97}) no(10, x.forge(3, n, k));
        }
    }

    static void putIntoARowOfBars() {
        says("4 STRETCH k modulo 10 is put into a row that takes BARS and CROSSINGS: 14; answers its KIND"
            + " (0: there is no such).");
        done(x.forge(4, 0, 0), 0);
        river(REACH, BAR, BEND, CROSSING, LOCK, ICE);
        for (int k = -100; k <= 100; k++) {
            int stretch = Math.floorMod(k, 10);
            if (stretch == BAR || stretch == CROSSING) done(x.forge(4, 0, k), stretch);
            else if (stretch <= 5) no(14, x.forge(4, 0, k));
            else done(x.forge(4, 0, k), 0);
        }
    }

    static void aThousandIsDivided() {
        says("5 1000 is divided by n: 15.");
        for (int n = -100; n <= 100; n++) {
            if (n == 0) no(15, x.forge(5, n, 0));
            else done(x.forge(5, n, 0), n < 0 ? -(1000 / -n) : 1000 / n);
        }
    }

    static void aFailureIsThrown() {
        says("6 a failure is thrown: n modulo 2 is 0: none is there: 10; 1: one that is caught at once; answers 1.");
        for (int n = -100; n <= 100; n++) {
            if (n % 2 == 0) no(10, x.forge(6, n, 0));
            else done(x.forge(6, n, 0), 1);
        }
    }

    // ---- STATUS ----

    static void everyStatusThereIs() {
        says("0 done; 1 a number is none such or outside what is told; 2 there is no room; 3 it is not so (as told);"
            + " 10 .. 15 the host refused it: 10 nothing where something is asked, 11 a thing of another sort or KIND,"
            + " 12 a place outside, 13 a size below 0, 14 a thing that does not fit, 15 divided by 0;"
            + " 21 .. 24 LEAVING can't be (20 and WHY).");
        river(REACH);
        x.boat(0, 11, 9, 4);
        x.boat(0, 9, 9, 3);
        no(1, x.go(0));
        no(3, x.off(0));
        no(10, x.forge(6, 0, 0));
        no(11, x.forge(0, 1, 0));
        x.sheet(0, SHORTS, 0);
        no(12, x.forge(2, 0, 0));
        no(13, x.forge(1, -1, 0));
        no(14, x.forge(4, 0, 0));
        no(15, x.forge(5, 0, 0));
        no(22, x.leave(0, UP));
        no(24, x.leave(1, DOWN));
        done(x.leave(0, DOWN), 0);
        no(21, x.leave(0, DOWN));
        x.gauge(0, 1);
        done(x.off(0), 0);
        no(23, x.leave(0, DOWN));
        goTo(9599);
        no(2, x.go(1));
        done(x.cold(0, false), 0);
    }

    static void questionsLeaveStatusAsItIs() {
        says("STATUS of the latest call that is no question");
        river(REACH);
        boat(0, 1);
        boat(0, 2);
        x.bale(0, 1, 5, 5);
        for (int round = 0; round < 2; round++) {
            no(13, x.forge(1, -1, 0));
            for (int bad : new int[] {0, 1, -1, 999}) {
                x.height(bad);
                x.stretchTold(bad, 0);
                x.water(bad, 0);
                x.boatTold(bad, 0);
                x.baleTold(bad, 0);
                x.why(bad, UP);
                x.knows(bad, 0, 0);
                x.box(bad, 0, 0);
                x.lading(bad, 9);
                x.wooding(bad, 0, 1);
                x.bought(bad, 0, 1, 0);
                x.lights();
                x.gives(bad, 1, 0, true, false);
                x.count(bad);
                x.trace(bad);
                due(x.status(), 13);
            }
            done(x.forge(1, 1, 0), 1);
            x.height(-1);
            due(x.status(), 0);
        }
    }

    static void everyOtherCallSetsStatus() {
        says("(stretch, gauge, shift, cold, light, boat, bale, lade, land, lose, leave, off, go, yard, wood, trip,"
            + " rule, image, back, sheet, cell, none, gauges, act, forge)");
        river(BAR, CROSSING);
        setsStatus(() -> x.stretch(REACH, 4, 10));
        setsStatus(() -> x.gauge(0, 0));
        setsStatus(() -> x.shift(0, 0, 0));
        setsStatus(() -> x.cold(0, true));
        setsStatus(() -> x.light(1, true));
        setsStatus(() -> x.boat(0, 1, 9, 9));
        setsStatus(() -> x.bale(0, 2, 5, 5));
        setsStatus(() -> x.lade(0, 0));
        setsStatus(() -> x.land(0));
        x.lade(0, 0);
        setsStatus(() -> x.lose(0));
        setsStatus(() -> x.leave(0, DOWN));
        setsStatus(() -> x.go(4));
        setsStatus(() -> x.yard(1, 1));
        setsStatus(() -> x.wood(0, 1));
        setsStatus(() -> x.trip(0, 1, 0));
        setsStatus(() -> x.rule(0, 0, 0));
        setsStatus(() -> x.image());
        setsStatus(() -> x.back());
        setsStatus(() -> x.sheet(0, FLOATS, 1));
        setsStatus(() -> x.cell(0, 0, 0));
        setsStatus(() -> x.none(0, 0));
        setsStatus(() -> x.gauges(0, 0, 0, 1));
        setsStatus(() -> x.act(0, 0, 0));
        setsStatus(() -> x.forge(1, 1, 0));
        x.boat(0, 11, 9, 9);
        x.leave(1, DOWN);
        x.gauge(0, 1);
        setsStatus(() -> x.off(1));
    }

    private static void setsStatus(Runnable call) {
        no(15, x.forge(5, 0, 0));
        call.run();
        due(x.status(), 0);
    }
}
