/** Boundaries of stretches, days, heights, shifts, cold, light, water and how long a stretch is. */
final class WaterBounds extends Bench {
    private static final int REACH = 0, BAR = 1, BEND = 2, CROSSING = 3, LOCK = 4, ICE = 5;

    // ---- stretches and landings ----

    static void tenStretchesFrom0() {
        says("STRETCHES (10 at most, numbered from 0) lie in a row");
        for (int k = 0; k < 10; k++) {
            due(x.count(0), k);
            due(x.stretchTold(k, 0), NO);
            done(x.stretch(k % 6, k + 1, k), k);
        }
        no(2, x.stretch(REACH, 4, 10));
        due(x.count(0), 10);
        for (int k = 0; k < 10; k++) due(x.stretchTold(k, 1), k + 1);
        due(x.stretchTold(10, 1), NO);
    }

    static void landingsAroundEachStretch() {
        says("STRETCH k between LANDINGS k and k + 1");
        for (int k = 0; k <= 10; k++) {
            done(x.yard(k, 1), 0);
            no(1, x.yard(k + 1, 1));
            if (k < 10) x.stretch(REACH, 4, 10);
        }
        boat(10, 1);
        done(x.leave(0, UP), 4);
        due(x.boatTold(0, 1), 9);
        x.go(4);
        due(x.boatTold(0, 1), 9);
        done(x.leave(0, DOWN), 4);
        due(x.boatTold(0, 1), 9);
        x.go(4);
        due(x.boatTold(0, 1), 10);
        no(22, x.leave(0, DOWN));
    }

    static void aNewStretchOpensItsLanding() {
        says("`int stretch(int kind, int length, int depth)`: A STRETCH behind the last one: its number. STATUS 1, 2.");
        boat(0, 1);
        no(22, x.leave(0, DOWN));
        done(x.stretch(REACH, 3, 10), 0);
        done(x.leave(0, DOWN), 3);
        x.go(3);
        no(22, x.leave(0, DOWN));
        done(x.stretch(REACH, 5, 10), 1);
        done(x.leave(0, DOWN), 5);
        due(x.boatTold(0, 1), 1);
    }

    static void lengthFrom1To20AndDepthFrom0To99() {
        says("Each has a LENGTH (1 .. 20) and a DEPTH (0 .. 99).");
        for (int bad : outside(1, 20)) no(1, x.stretch(REACH, bad, 10));
        for (int bad : outside(0, 99)) no(1, x.stretch(REACH, 4, bad));
        done(x.stretch(REACH, 1, 0), 0);
        done(x.stretch(REACH, 20, 99), 1);
        due(x.stretchTold(0, 1), 1);
        due(x.stretchTold(0, 2), 0);
        due(x.stretchTold(1, 1), 20);
        due(x.stretchTold(1, 2), 99);
        due(x.stretchTold(0, 5), 1);
        due(x.stretchTold(1, 5), 20);
        due(x.water(0, 0), 0);
        due(x.water(1, 0), 99);
    }

    static void kindsFrom0To5() {
        says("KINDS: 0 REACH.");
        for (int bad : outside(0, 5)) no(1, x.stretch(bad, 4, 10));
        due(x.count(0), 0);
        for (int kind = 0; kind <= 5; kind++) {
            done(x.stretch(kind, 4, 10), kind);
            due(x.stretchTold(kind, 0), kind);
        }
    }

    static void kindsUnderOthers() {
        says("1 BAR, under REACH. 2 BEND, under REACH. 3 CROSSING, under BAR. 4 LOCK, under REACH."
            + " 5 ICE, under REACH.");
        river(REACH, BAR, BEND, CROSSING, LOCK, ICE);
        for (int kind = 0; kind <= 5; kind++) {
            for (int upper = 0; upper <= 5; upper++) {
                boolean under = upper == kind || upper == REACH || upper == BAR && kind == CROSSING;
                if (under) done(x.forge(0, upper, kind), kind);
                else no(11, x.forge(0, upper, kind));
            }
        }
    }

    // ---- quarters and days ----

    static void quarterFrom0To9599() {
        says("THE QUARTER is 0 at first, 9599 at most");
        due(x.count(5), 0);
        goTo(9400);
        done(x.go(199), 9599);
        no(2, x.go(1));
        due(x.count(5), 9599);
        fresh();
        goTo(9400);
        no(2, x.go(200));
        due(x.count(5), 9400);
        done(x.go(198), 9598);
        no(2, x.go(2));
        done(x.go(1), 9599);
    }

    static void aDayHas96Quarters() {
        says("the DAY of a QUARTER is it by 96 (cut)");
        river(BAR);
        x.shift(0, 1, 5);
        x.shift(0, 2, 7);
        x.shift(0, 99, 9);
        int[] quarters = {0, 95, 96, 191, 192, 9503, 9504, 9599};
        int[] shifts = {0, 0, 5, 5, 7, 7, 9, 9};
        for (int i = 0; i < quarters.length; i++) {
            goTo(quarters[i]);
            due(x.stretchTold(0, 4), shifts[i]);
        }
    }

    static void nightIsTheFirstAndLast24Quarters() {
        says("it is NIGHT in the first 24 and the last 24 QUARTERS of a DAY");
        int[] quarters = {0, 23, 24, 71, 72, 95, 96, 119, 120, 167, 168, 191, 192, 9504, 9527, 9528, 9575, 9576, 9599};
        int[] nights = {1, 1, 0, 0, 1, 1, 1, 1, 0, 0, 1, 1, 1, 1, 1, 0, 0, 1, 1};
        for (int i = 0; i < quarters.length; i++) {
            goTo(quarters[i]);
            due(x.count(8), nights[i]);
        }
    }

    static void everyQuarterOfADayIsNightOrNot() {
        says("8 whether it is NIGHT (1, 0)");
        for (int q = 0; q < 192; q++) {
            due(x.count(8), q % 96 < 24 || q % 96 >= 72 ? 1 : 0);
            x.go(1);
        }
    }

    // ---- heights ----

    static void heightsAreOfDays0To99() {
        says("HEIGHT of a DAY (0 .. 99)");
        says("HEIGHT of a DAY. NO: no such.");
        for (int bad : outside(0, 99)) {
            due(x.height(bad), NO);
            no(1, x.gauge(bad, 0));
        }
        done(x.gauge(0, 3), 1);
        done(x.gauge(99, 4), 2);
        due(x.height(0), 3);
        due(x.height(99), 4);
        for (int bad : outside(0, 99)) due(x.height(bad), NO);
    }

    static void heightsAreFromMinus20To40() {
        says("HEIGHT (-20 .. 40) of a DAY is told: how many DAYS were told (each once). STATUS 1.");
        for (int bad : outside(-20, 40)) no(1, x.gauge(7, bad));
        due(x.height(7), 0);
        done(x.gauge(7, -20), 1);
        due(x.height(7), -20);
        done(x.gauge(7, 40), 1);
        due(x.height(7), 40);
        for (int bad : outside(-20, 40)) no(1, x.gauge(7, bad));
        due(x.height(7), 40);
    }

    static void eachDayIsCountedOnce() {
        says("how many DAYS were told (each once)");
        for (int day = 0; day < 100; day++) done(x.gauge(day, 0), day + 1);
        for (int day = 99; day >= 50; day--) done(x.gauge(day, 9), 100);
        no(1, x.gauge(100, 0));
        done(x.gauge(0, 0), 100);
    }

    static void heightAsToldLast() {
        says("as it was told last for it");
        x.gauge(4, 8);
        x.gauge(6, 8);
        x.gauge(5, -7);
        x.gauge(5, 0);
        due(x.height(5), 0);
        x.gauge(5, 33);
        due(x.height(5), 33);
        due(x.height(4), 8);
        due(x.height(6), 8);
    }

    static void heightBetweenTheNearestDays() {
        says("with a and b told for the nearest DAYS x ahead of it and y behind it");
        x.gauge(10, 5);
        x.gauge(30, 0);
        x.gauge(20, 15);
        x.gauge(0, -20);
        x.gauge(99, 40);
        due(x.height(11), 6);
        due(x.height(15), 10);
        due(x.height(19), 14);
        due(x.height(20), 15);
        due(x.height(21), 14);
        due(x.height(22), 12);
        due(x.height(25), 8);
        due(x.height(29), 2);
        due(x.height(9), 2);
        due(x.height(1), -18);
        due(x.height(31), 0);
        due(x.height(32), 1);
        due(x.height(98), 39);
        x.gauge(15, 40);
        due(x.height(14), 33);
        due(x.height(16), 35);
    }

    static void heightIsCutTowards0() {
        says("a and what (b - a) times (DAY - x) by (y - x) is, that cut towards 0");
        x.gauge(0, 0);
        x.gauge(2, -1);
        due(x.height(1), 0);
        x.gauge(2, 1);
        due(x.height(1), 0);
        x.gauge(0, -5);
        x.gauge(2, 0);
        due(x.height(1), -3);
        x.gauge(0, 5);
        due(x.height(1), 3);
        x.gauge(2, 10);
        due(x.height(1), 7);
        x.gauge(0, -5);
        x.gauge(2, -10);
        due(x.height(1), -7);
    }

    static void heightOverAllDays() {
        says("(b - a) times (DAY - x) by (y - x)");
        x.gauge(0, -20);
        x.gauge(99, 40);
        int[] days = {1, 2, 49, 50, 97, 98};
        int[] rising = {-20, -19, 9, 10, 38, 39};
        for (int i = 0; i < days.length; i++) due(x.height(days[i]), rising[i]);
        x.gauge(0, 40);
        x.gauge(99, -20);
        int[] falling = {40, 39, 11, 10, -18, -19};
        for (int i = 0; i < days.length; i++) due(x.height(days[i]), falling[i]);
    }

    static void heightWithOneOfTheTwo() {
        says("if there is but one of these, that one's");
        x.gauge(50, -7);
        for (int day = 0; day < 100; day++) due(x.height(day), -7);
        x.gauge(52, 9);
        due(x.height(49), -7);
        due(x.height(0), -7);
        due(x.height(51), 1);
        due(x.height(53), 9);
        due(x.height(99), 9);
        fresh();
        x.gauge(0, 6);
        due(x.height(99), 6);
        fresh();
        x.gauge(99, -6);
        due(x.height(0), -6);
    }

    static void heightWithoutAny() {
        says("else 0. SHIFT of a STRETCH on a DAY");
        for (int day = 0; day < 100; day++) due(x.height(day), 0);
    }

    // ---- shifts ----

    static void shiftOfTheLatestDay() {
        says("of those told for that DAY or one ahead of it the one for the latest DAY (told last for it)");
        for (int kind : new int[] {BAR, CROSSING}) {
            river(kind);
            x.shift(0, 50, 6);
            x.shift(0, 20, 3);
            due(x.water(0, 19), 10);
            due(x.water(0, 20), 7);
            due(x.water(0, 49), 7);
            due(x.water(0, 50), 4);
            due(x.water(0, 99), 4);
            x.shift(0, 20, -3);
            due(x.water(0, 20), 13);
            due(x.water(0, 49), 13);
            due(x.water(0, 50), 4);
            x.shift(0, 50, 0);
            due(x.water(0, 50), 10);
            due(x.water(0, 99), 10);
            x.shift(0, 0, 20);
            due(x.water(0, 0), -10);
            due(x.water(0, 19), -10);
            due(x.water(0, 20), 13);
        }
    }

    static void shiftWithoutAny() {
        says("0 without any. COLD is told of DAYS.");
        river(BAR, CROSSING);
        due(x.stretchTold(0, 4), 0);
        due(x.stretchTold(1, 4), 0);
        x.shift(0, 1, 9);
        due(x.stretchTold(0, 4), 0);
        due(x.water(0, 0), 10);
        due(x.water(0, 1), 1);
        due(x.water(1, 1), 10);
    }

    static void shiftFromMinus20To20() {
        says("SHIFT (-20 .. 20) of a STRETCH is told for a DAY: 1.");
        river(BAR, CROSSING);
        for (int k = 0; k < 2; k++) {
            done(x.shift(k, 0, -20), 1);
            due(x.stretchTold(k, 4), -20);
            done(x.shift(k, 0, 20), 1);
            due(x.stretchTold(k, 4), 20);
            for (int bad : outside(-20, 20)) no(1, x.shift(k, 0, bad));
            for (int bad : outside(0, 99)) no(1, x.shift(k, bad, 0));
            due(x.stretchTold(k, 4), 20);
            done(x.shift(k, 99, 1), 1);
            due(x.water(k, 98), -10);
            due(x.water(k, 99), 9);
        }
        for (int bad : outside(0, 1)) no(1, x.shift(bad, 0, 0));
    }

    static void onlyBarsAndThoseUnderShift() {
        says("STATUS 1, 3 (it is no BAR, nor one under it).");
        river(REACH, BAR, BEND, CROSSING, LOCK, ICE);
        for (int k : new int[] {REACH, BEND, LOCK, ICE}) {
            no(3, x.shift(k, 0, 5));
            due(x.stretchTold(k, 4), 0);
            no(1, x.shift(k, 100, 5));
            no(1, x.shift(k, 0, 21));
        }
        done(x.shift(BAR, 0, 5), 1);
        done(x.shift(CROSSING, 0, 5), 1);
    }

    // ---- cold and light ----

    static void coldIsToldOfDays0To99() {
        says("A DAY is COLD, or not: 1 if it was otherwise, else 0. STATUS 1.");
        river(ICE);
        for (int bad : outside(0, 99)) {
            no(1, x.cold(bad, true));
            no(1, x.cold(bad, false));
        }
        for (int day : new int[] {0, 99}) {
            done(x.cold(day, false), 0);
            due(x.water(0, day), 10);
            done(x.cold(day, true), 1);
            done(x.cold(day, true), 0);
            due(x.water(0, day), 0);
            done(x.cold(day, false), 1);
            done(x.cold(day, false), 0);
            due(x.water(0, day), 10);
        }
    }

    static void onlyCrossingsAreLit() {
        says("A CROSSING is LIT, or not (at first): 1 if it was otherwise, else 0. STATUS 1, 3 (it is no CROSSING).");
        river(REACH, BAR, BEND, CROSSING, LOCK, ICE);
        for (int bad : outside(0, 5)) no(1, x.light(bad, true));
        for (int k : new int[] {REACH, BAR, BEND, LOCK, ICE}) {
            no(3, x.light(k, true));
            no(3, x.light(k, false));
            due(x.stretchTold(k, 3), 0);
        }
        due(x.stretchTold(CROSSING, 3), 0);
        done(x.light(CROSSING, false), 0);
        done(x.light(CROSSING, true), 1);
        due(x.stretchTold(CROSSING, 3), 1);
        done(x.light(CROSSING, true), 0);
        done(x.light(CROSSING, false), 1);
        due(x.stretchTold(CROSSING, 3), 0);
    }

    // ---- water ----

    static void waterIsDepthAndHeight() {
        says("WATER of a STRETCH on a DAY: DEPTH and HEIGHT");
        for (int kind : new int[] {REACH, BAR, BEND, CROSSING, ICE}) {
            fresh();
            x.stretch(kind, 4, 0);
            x.stretch(kind, 4, 99);
            x.gauge(0, -20);
            x.gauge(99, 40);
            due(x.water(0, 0), -20);
            due(x.water(1, 0), 79);
            due(x.water(0, 99), 40);
            due(x.water(1, 99), 139);
            due(x.water(0, 1), -20);
            due(x.water(0, 98), 39);
        }
    }

    static void waterOfBarsAndCrossingsLessShift() {
        says("of BARS and CROSSINGS less SHIFT");
        for (int kind : new int[] {BAR, CROSSING}) {
            fresh();
            x.stretch(kind, 4, 0);
            x.stretch(kind, 4, 99);
            x.gauge(0, -20);
            x.gauge(99, 40);
            x.shift(0, 0, 20);
            x.shift(1, 99, -20);
            due(x.water(0, 0), -40);
            due(x.water(0, 99), 20);
            due(x.water(1, 0), 79);
            due(x.water(1, 98), 138);
            due(x.water(1, 99), 159);
        }
    }

    static void waterOfLocksIsDepthAlone() {
        says("of LOCKS DEPTH alone");
        fresh();
        x.stretch(LOCK, 4, 0);
        x.stretch(LOCK, 4, 99);
        x.gauge(0, -20);
        x.gauge(99, 40);
        x.cold(0, true);
        for (int day : new int[] {0, 50, 99}) {
            due(x.water(0, day), 0);
            due(x.water(1, day), 99);
        }
    }

    static void waterOfIceOnColdDays() {
        says("of ICE 0 on COLD DAYS");
        river(REACH, BAR, BEND, CROSSING, LOCK, ICE);
        x.gauge(0, -20);
        x.gauge(9, 40);
        x.cold(0, true);
        x.cold(9, true);
        due(x.water(ICE, 0), 0);
        due(x.water(ICE, 9), 0);
        due(x.water(ICE, 10), 50);
        due(x.water(ICE, 8), 43);
        for (int k : new int[] {REACH, BAR, BEND, CROSSING}) {
            due(x.water(k, 0), -10);
            due(x.water(k, 9), 50);
        }
        due(x.water(LOCK, 0), 10);
    }

    static void waterOfNoSuch() {
        says("WATER of a STRETCH on a DAY. NO: no such.");
        due(x.water(0, 0), NO);
        river(REACH, REACH);
        due(x.water(1, 99), 10);
        for (int bad : outside(0, 1)) due(x.water(bad, 0), NO);
        for (int bad : outside(0, 99)) due(x.water(0, bad), NO);
        due(x.water(LEAST, MOST), NO);
    }

    // ---- how long ----

    static void longIsLength() {
        says("LONG of it in a QUARTER: LENGTH");
        for (int kind : new int[] {REACH, BAR, ICE}) {
            fresh();
            x.stretch(kind, 1, 10);
            x.stretch(kind, 20, 10);
            x.gauge(0, 40);
            x.cold(0, true);
            due(x.stretchTold(0, 5), 1);
            due(x.stretchTold(1, 5), 20);
            x.go(40);
            due(x.stretchTold(0, 5), 1);
            due(x.stretchTold(1, 5), 20);
        }
    }

    static void bendsAreCutOffFromHeight20On() {
        says("of BENDS half of it (rounded up), if HEIGHT is 20 or more");
        for (int length = 1; length <= 9; length++) x.stretch(BEND, length, 10);
        x.stretch(BEND, 20, 10);
        for (int height : new int[] {-20, 0, 19, 20, 21, 40}) {
            x.gauge(0, height);
            for (int k = 0; k < 10; k++) {
                int length = k == 9 ? 20 : k + 1;
                int half = length % 2 == 0 ? length / 2 : length / 2 + 1;
                due(x.stretchTold(k, 5), height >= 20 ? half : length);
            }
        }
    }

    static void bendsAreCutOffByTheHeightOfToday() {
        says("of BENDS half of it (rounded up), if HEIGHT is 20 or more");
        river(BEND);
        x.gauge(0, 19);
        x.gauge(1, 20);
        x.gauge(2, 19);
        int[] quarters = {0, 95, 96, 191, 192};
        int[] longs = {4, 4, 2, 2, 4};
        for (int i = 0; i < quarters.length; i++) {
            goTo(quarters[i]);
            due(x.stretchTold(0, 5), longs[i]);
        }
    }

    static void locksTake4More() {
        says("of LOCKS 4 more");
        x.stretch(LOCK, 1, 10);
        x.stretch(LOCK, 20, 10);
        for (int height : new int[] {0, 40}) {
            x.gauge(0, height);
            due(x.stretchTold(0, 5), 5);
            due(x.stretchTold(1, 5), 24);
        }
        x.go(40);
        due(x.stretchTold(0, 5), 5);
        due(x.stretchTold(1, 5), 24);
    }

    static void crossingsTake8MoreAtNightUnlit() {
        says("of CROSSINGS 8 more at NIGHT, if it is not LIT");
        x.stretch(CROSSING, 1, 10);
        x.stretch(CROSSING, 20, 10);
        x.stretch(CROSSING, 20, 10);
        x.light(2, true);
        x.gauge(0, 40);
        int[] quarters = {0, 23, 24, 71, 72, 95, 96};
        int[] more = {8, 8, 0, 0, 8, 8, 8};
        for (int i = 0; i < quarters.length; i++) {
            goTo(quarters[i]);
            due(x.stretchTold(0, 5), 1 + more[i]);
            due(x.stretchTold(1, 5), 20 + more[i]);
            due(x.stretchTold(2, 5), 20);
        }
        x.light(2, false);
        due(x.stretchTold(2, 5), 28);
    }

    static void whatIsToldOfAStretch() {
        says("Of a STRETCH: 0 KIND, 1 LENGTH, 2 DEPTH, 3 whether it is LIT (1, 0), 4 SHIFT today, 5 LONG now."
            + " NO: no such.");
        for (int what = 0; what <= 5; what++) due(x.stretchTold(0, what), NO);
        x.stretch(REACH, 9, 8);
        x.stretch(CROSSING, 7, 6);
        x.light(1, true);
        x.shift(1, 0, -5);
        int[] told = {CROSSING, 7, 6, 1, -5, 7};
        for (int what = 0; what <= 5; what++) due(x.stretchTold(1, what), told[what]);
        for (int bad : outside(0, 5)) due(x.stretchTold(1, bad), NO);
        for (int bad : outside(0, 1)) due(x.stretchTold(bad, 0), NO);
    }
}
