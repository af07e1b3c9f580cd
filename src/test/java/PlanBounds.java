/** Boundaries of wooding, of the fewest crossings to light, and of the law of who gives way. */
final class PlanBounds extends Bench {
    private static final int REACH = 0, BAR = 1, BEND = 2, CROSSING = 3, LOCK = 4, ICE = 5;

    /** Reaches of these lengths. */
    private static void reaches(int... lengths) {
        fresh();
        for (int length : lengths) x.stretch(REACH, length, 10);
    }

    private static void prices(int... prices) {
        for (int l = 0; l < prices.length; l++) x.yard(l, prices[l]);
    }

    private static void buys(int boat, int from, int to, int cost, int... cords) {
        due(x.wooding(boat, from, to), cost);
        for (int i = 0; i < cords.length; i++) due(x.bought(boat, from, to, i), cords[i]);
        due(x.bought(boat, from, to, cords.length), -1);
    }

    private static void noWay(int boat, int from, int to) {
        due(x.wooding(boat, from, to), -1);
        for (int i = -1; i <= 2; i++) due(x.bought(boat, from, to, i), -1);
    }

    // ---- wooding ----

    static void theTankJustHoldsTheStretch() {
        says("(never has more than its TANK)");
        reaches(10, 10);
        x.boat(0, 1, 9, 10);
        x.boat(0, 1, 9, 9);
        x.boat(0, 1, 9, 20);
        x.boat(0, 1, 9, 19);
        prices(3, 5);
        buys(0, 0, 2, 80, 10, 10);
        noWay(1, 0, 1);
        noWay(1, 0, 2);
        buys(2, 0, 2, 60, 20, 0);
        buys(3, 0, 2, 62, 19, 1);
        prices(3, 0);
        noWay(3, 0, 2);
        buys(2, 0, 2, 60, 20, 0);
    }

    static void aStretchFurtherOnIsMoreThanTheTank() {
        says("The COST of WOODING. -1: there is none");
        reaches(5, 11, 5);
        x.boat(0, 1, 9, 10);
        x.boat(0, 1, 9, 11);
        prices(1, 1, 1, 1);
        buys(0, 0, 1, 5, 5);
        noWay(0, 0, 2);
        noWay(0, 0, 3);
        noWay(0, 3, 1);
        noWay(0, 3, 0);
        buys(1, 0, 3, 21, 5, 11, 5);
        buys(1, 3, 0, 21, 5, 11, 5);
        prices(1, 99, 99, 1);
        noWay(0, 0, 2);
        noWay(0, 0, 3);
        noWay(0, 3, 1);
        noWay(0, 3, 0);
    }

    static void itHasNoWoodAtFirst() {
        says("it having no WOOD at first");
        reaches(10);
        x.boat(0, 1, 9, 99);
        due(x.boatTold(0, 5), 99);
        noWay(0, 0, 1);
        prices(2);
        buys(0, 0, 1, 20, 10);
    }

    static void noneIsSoldAtPrice0() {
        says("0: none is sold; 0 at first");
        reaches(10, 10, 10);
        x.boat(0, 1, 9, 20);
        noWay(0, 0, 3);
        prices(1, 0, 0);
        noWay(0, 0, 3);
        buys(0, 0, 2, 20, 20, 0);
        prices(1, 0, 99);
        buys(0, 0, 3, 1010, 20, 0, 10);
        prices(0, 1, 1);
        noWay(0, 0, 3);
        buys(0, 1, 3, 20, 10, 10);
        reaches(1, 1);
        x.boat(0, 1, 9, 2);
        noWay(0, 0, 1);
        prices(0, 1, 0);
        noWay(0, 0, 2);
        buys(0, 1, 2, 1, 1);
        prices(1, 0, 0);
        buys(0, 0, 2, 2, 2, 0);
    }

    static void nothingIsBoughtAtTheLastLanding() {
        says("at each LANDING but the last it buys whole cords");
        reaches(10, 10);
        x.boat(0, 1, 9, 99);
        prices(5, 7, 1);
        buys(0, 0, 2, 100, 20, 0);
        buys(0, 2, 0, 20, 20, 0);
        buys(0, 2, 1, 10, 10);
        prices(5, 7, 0);
        buys(0, 0, 2, 100, 20, 0);
        noWay(0, 2, 1);
    }

    static void eachStretchTakesWhatItIsLong() {
        says("each STRETCH takes as many as it is LONG: the least COST");
        for (int kind = 0; kind <= 5; kind++) x.stretch(kind, 5, 10);
        x.boat(0, 1, 9, 9);
        for (int l = 0; l <= 6; l++) x.yard(l, 1);
        int[] longs = {5, 5, 5, 5, 9, 5};
        for (int k = 0; k < 6; k++) {
            buys(0, k, k + 1, longs[k], longs[k]);
            buys(0, k + 1, k, longs[k], longs[k]);
        }
        buys(0, 0, 6, 34, 5, 5, 5, 5, 9, 5);
        buys(0, 6, 0, 34, 5, 9, 5, 5, 5, 5);
    }

    static void byDaylightToday() {
        says("as if it went through today by daylight");
        x.stretch(CROSSING, 5, 10);
        x.stretch(BEND, 5, 10);
        x.boat(0, 1, 9, 13);
        prices(1, 1, 1);
        x.gauge(0, 19);
        x.gauge(1, 20);
        due(x.count(8), 1);
        due(x.stretchTold(0, 5), 13);
        buys(0, 0, 1, 5, 5);
        buys(0, 1, 2, 5, 5);
        goTo(95);
        buys(0, 0, 2, 10, 5, 5);
        goTo(96);
        buys(0, 0, 1, 5, 5);
        buys(0, 0, 2, 8, 5, 3);
        x.light(0, true);
        buys(0, 0, 1, 5, 5);
    }

    static void theLeastCost() {
        says("the least COST");
        reaches(10, 10, 10, 10);
        x.boat(0, 1, 9, 25);
        prices(4, 3, 9, 2);
        buys(0, 0, 4, 120, 10, 20, 0, 10);
        prices(2, 9, 9, 9);
        buys(0, 0, 4, 185, 25, 0, 5, 10);
        prices(9, 5, 1, 1);
        buys(0, 0, 4, 160, 10, 10, 10, 10);
    }

    static void theDearestWay() {
        says("have a PRICE of a cord (0 .. 99;");
        for (int k = 0; k < 10; k++) x.stretch(LOCK, 20, 10);
        x.boat(0, 1, 9, 99);
        x.boat(0, 1, 9, 24);
        x.boat(0, 1, 9, 23);
        for (int l = 0; l <= 10; l++) x.yard(l, 99);
        for (int b = 0; b < 2; b++) {
            buys(b, 0, 10, 23760, 24, 24, 24, 24, 24, 24, 24, 24, 24, 24);
            due(x.wooding(b, 10, 0), 23760);
        }
        noWay(2, 0, 10);
        noWay(2, 4, 5);
        for (int l = 1; l <= 10; l++) if (l != 4 && l != 8) x.yard(l, 0);
        buys(0, 0, 10, 23760, 96, 0, 0, 0, 96, 0, 0, 0, 48, 0);
        noWay(1, 0, 10);
    }

    static void aFullTankOf99() {
        says("a TANK (1 .. 99)");
        reaches(20, 20, 20, 20, 19);
        x.boat(0, 1, 9, 99);
        x.boat(0, 1, 9, 98);
        x.boat(0, 1, 9, 1);
        prices(1);
        buys(0, 0, 5, 99, 99, 0, 0, 0, 0);
        noWay(1, 0, 5);
        buys(1, 0, 4, 80, 80, 0, 0, 0);
        noWay(2, 0, 1);
        reaches(1);
        x.boat(0, 1, 9, 1);
        prices(7, 8);
        buys(0, 0, 1, 7, 1);
        buys(0, 1, 0, 8, 1);
    }

    static void ofLikeCostsLessAtTheFirst() {
        says("of like ones the one that buys less at its first LANDING, then at the second one on its way, and so on");
        reaches(10, 10, 10);
        x.boat(0, 1, 9, 30);
        prices(4, 4, 4, 4);
        buys(0, 0, 3, 120, 10, 10, 10);
        buys(0, 3, 0, 120, 10, 10, 10);
        prices(4, 9, 4);
        buys(0, 0, 3, 120, 20, 0, 10);
        prices(4, 4, 9);
        buys(0, 0, 3, 120, 10, 20, 0);
        prices(5, 3, 3);
        buys(0, 0, 3, 110, 10, 10, 10);
        prices(5, 0, 5);
        buys(0, 0, 3, 150, 20, 0, 10);
    }

    static void fromALandingToItself() {
        says("The COST of WOODING. -1: there is none, no such; 0 from a LANDING to itself.");
        reaches(10);
        x.boat(0, 1, 9, 9);
        for (int l = 0; l <= 1; l++) {
            due(x.wooding(0, l, l), 0);
            for (int i = -1; i <= 1; i++) due(x.bought(0, l, l, i), -1);
            for (int bad : outside(0, 0)) due(x.wooding(bad, l, l), -1);
        }
        for (int bad : outside(0, 1)) {
            due(x.wooding(0, bad, bad), -1);
            due(x.wooding(0, 0, bad), -1);
            due(x.wooding(0, bad, 0), -1);
        }
        due(x.wooding(0, LEAST, MOST), -1);
    }

    static void whatIsBoughtAtTheIthLanding() {
        says("What is bought at the i-th LANDING on the way (0: the one from which it goes)."
            + " -1: none such (the last one neither), no way to buy.");
        due(x.bought(0, 0, 0, 0), -1);
        reaches(10, 5);
        x.boat(1, 1, 9, 12);
        prices(2, 3, 1);
        buys(0, 0, 2, 33, 12, 3);
        buys(0, 2, 0, 21, 12, 3);
        for (int bad : outside(0, 1)) {
            due(x.bought(0, 0, 2, bad), -1);
            due(x.bought(0, 2, 0, bad), -1);
        }
        for (int bad : outside(0, 0)) due(x.bought(bad, 0, 2, 0), -1);
        for (int bad : outside(0, 2)) {
            due(x.bought(0, bad, 2, 0), -1);
            due(x.bought(0, 0, bad, 0), -1);
        }
        due(x.bought(0, 2, 1, 1), -1);
        due(x.bought(0, 2, 1, 0), 5);
    }

    static void whereverTheBoatIs() {
        says("For a BOAT from a LANDING to another one");
        reaches(10, 10);
        x.boat(2, 1, 9, 99);
        x.boat(0, 11, 9, 99);
        prices(2, 2);
        x.leave(0, UP);
        x.leave(1, DOWN);
        buys(0, 0, 1, 20, 10);
        buys(1, 1, 0, 20, 10);
        due(x.boatTold(0, 5), 89);
        due(x.boatTold(1, 5), 99);
    }

    // ---- trips and lights ----

    static void sixTripsFrom0() {
        says("TRIPS (6 at most) from a LANDING to another one, each with WAITS (0 .. 9)");
        river(CROSSING, CROSSING);
        for (int bad : outside(0, 9)) no(1, x.trip(0, 1, bad));
        for (int i = 0; i < 6; i++) {
            due(x.count(3), i);
            done(x.trip(i % 3, (i + 1) % 3, i == 5 ? 9 : 0), i);
        }
        no(2, x.trip(0, 1, 0));
        due(x.count(3), 6);
    }

    static void aTripFromALandingToAnother() {
        says("A TRIP: its number. STATUS 1 (also: from a LANDING to itself), 2.");
        no(1, x.trip(0, 0, 0));
        no(1, x.trip(0, 1, 0));
        river(CROSSING, REACH);
        for (int bad : outside(0, 2)) {
            no(1, x.trip(bad, 0, 0));
            no(1, x.trip(0, bad, 0));
            no(1, x.trip(bad, bad, 0));
        }
        for (int l = 0; l <= 2; l++) no(1, x.trip(l, l, 0));
        due(x.lights(), 0);
        done(x.trip(0, 2, 0), 0);
        done(x.trip(2, 0, 9), 1);
        due(x.lights(), 1);
    }

    static void noMoreUnlitThanWaits() {
        says("with which no TRIP has more CROSSINGS on its way that are not LIT than WAITS");
        for (int waits = 0; waits <= 3; waits++) {
            river(CROSSING, CROSSING, CROSSING);
            x.trip(0, 3, waits);
            due(x.lights(), (1 << 3 - waits) - 1);
        }
        river(CROSSING, CROSSING, CROSSING);
        x.trip(3, 0, 2);
        due(x.lights(), 1);
        x.light(2, true);
        due(x.lights(), 0);
        x.trip(2, 1, 0);
        due(x.lights(), 2);
        x.trip(1, 0, 0);
        due(x.lights(), 3);
    }

    static void onItsWayAlone() {
        says("no TRIP has more CROSSINGS on its way");
        river(CROSSING, CROSSING, CROSSING, CROSSING, CROSSING);
        x.trip(1, 2, 0);
        due(x.lights(), 2);
        x.trip(4, 3, 0);
        due(x.lights(), 2 + 8);
        x.trip(1, 4, 1);
        due(x.lights(), 2 + 8);
        x.trip(1, 4, 0);
        due(x.lights(), 2 + 4 + 8);
        x.trip(0, 5, 1);
        due(x.lights(), 1 + 2 + 4 + 8);
    }

    static void onlyUnlitCrossingsAreToLight() {
        says("the set of STRETCHES to light that are CROSSINGS, and are not LIT");
        river(REACH, BAR, BEND, CROSSING, LOCK, ICE, CROSSING);
        x.trip(0, 7, 0);
        due(x.lights(), 8 + 64);
        x.light(3, true);
        due(x.lights(), 64);
        x.light(6, true);
        due(x.lights(), 0);
        x.light(3, false);
        due(x.lights(), 8);
    }

    static void theFewestToLight() {
        says("of the fewest");
        river(CROSSING, CROSSING, CROSSING, CROSSING, CROSSING);
        x.trip(0, 3, 2);
        x.trip(2, 5, 2);
        due(x.lights(), 4);
        x.trip(0, 2, 1);
        due(x.lights(), 1 + 4);
        x.trip(3, 5, 1);
        due(x.lights(), 1 + 8);
    }

    static void ofTheFewestTheLeastBits() {
        says("of the fewest; of like ones the least number as bits");
        river(REACH, CROSSING, CROSSING, CROSSING);
        x.trip(0, 4, 2);
        due(x.lights(), 2);
        x.trip(0, 4, 1);
        due(x.lights(), 2 + 4);
        x.trip(3, 4, 0);
        due(x.lights(), 2 + 8);
    }

    static void lightsOfTenCrossings() {
        says("`int lights()`: THE FEWEST to light, as bits.");
        due(x.lights(), 0);
        for (int k = 0; k < 10; k++) x.stretch(CROSSING, 4, 10);
        due(x.lights(), 0);
        x.trip(0, 9, 9);
        due(x.lights(), 0);
        x.trip(10, 0, 9);
        due(x.lights(), 1);
        x.trip(0, 10, 1);
        due(x.lights(), 511);
        x.trip(9, 10, 0);
        due(x.lights(), 255 + 512);
        x.trip(0, 10, 0);
        due(x.lights(), 1023);
    }

    // ---- the law ----

    static void eightRulesFrom0() {
        says("RULES (8 at most, numbered from 0)");
        for (int i = 0; i < 8; i++) {
            due(x.count(4), i);
            done(x.rule(0, 0, 0), i);
        }
        no(2, x.rule(0, 0, 0));
        due(x.count(4), 8);
    }

    static void ruleOfAKindAHowAndDays() {
        says("A RULE: its number. days: 100 times the first DAY, and the last one (not ahead of it). STATUS 1, 2.");
        for (int bad : outside(0, 5)) no(1, x.rule(bad, 0, 0));
        for (int bad : outside(0, 2)) no(1, x.rule(0, bad, 0));
        for (int bad : new int[] {-1, -100, 10000, 10099, 100, 200, 5049, 9998, 9900, LEAST, MOST}) {
            no(1, x.rule(0, 0, bad));
        }
        due(x.count(4), 0);
        int[] days = {0, 99, 101, 5050, 5051, 9999};
        for (int i = 0; i < days.length; i++) done(x.rule(5, 2, days[i]), i);
    }

    static void inForceOnDaysFromTo() {
        says("in force on DAYS from .. to (both count)");
        river(REACH);
        boat(0, 1);
        boat(0, 1);
        x.rule(REACH, 2, 204);
        x.rule(REACH, 2, 606);
        x.rule(REACH, 2, 9999);
        int[] quarters = {0, 191, 192, 300, 479, 480, 575, 576, 671, 672, 9503, 9504, 9599};
        int[] gives = {-1, -1, 1, 1, 1, -1, -1, 1, 1, -1, -1, 1, 1};
        for (int i = 0; i < quarters.length; i++) {
            goTo(quarters[i]);
            due(x.gives(0, 1, 0, true, true), gives[i]);
        }
    }

    static void onAKindOrOneUnderIt() {
        says("on STRETCHES of a KIND, or one under it (also by others between)");
        for (int kind = 0; kind <= 5; kind++) {
            river(REACH, BAR, BEND, CROSSING, LOCK, ICE);
            boat(0, 1);
            boat(0, 1);
            x.rule(kind, 2, 99);
            for (int k = 0; k <= 5; k++) {
                boolean fits = kind == k || kind == REACH || kind == BAR && k == CROSSING;
                due(x.gives(0, 1, k, true, false), fits ? 1 : -1);
            }
        }
    }

    static void whoGoesUpGivesWay() {
        says("0 who goes up gives way (if just one does)");
        river(REACH);
        boat(0, 1);
        boat(0, 2);
        x.rule(REACH, 0, 0);
        due(x.gives(0, 1, 0, true, false), 0);
        due(x.gives(0, 1, 0, false, true), 1);
        due(x.gives(1, 0, 0, true, false), 1);
        due(x.gives(1, 0, 0, false, true), 0);
        due(x.gives(0, 1, 0, true, true), -1);
        due(x.gives(0, 1, 0, false, false), -1);
    }

    static void whoHasLessDraught() {
        says("1 who has less DRAUGHT (if they differ)");
        river(REACH);
        boat(0, 4);
        boat(0, 5);
        x.bale(0, 1, 9, 1);
        x.bale(0, 1, 1, 1);
        x.bale(0, 1, 10, 1);
        x.rule(REACH, 1, 0);
        for (int b = 0; b < 2; b++) due(x.gives(b, 1 - b, 0, b == 0, b == 0), 0);
        x.lade(0, 0);
        due(x.gives(1, 0, 0, false, true), 0);
        x.lade(1, 0);
        for (int b = 0; b < 2; b++) due(x.gives(b, 1 - b, 0, b == 0, b != 0), -1);
        x.lade(2, 0);
        for (int b = 0; b < 2; b++) due(x.gives(b, 1 - b, 0, true, false), 1);
    }

    static void whoHasTheGreaterNumber() {
        says("2 who has the greater number");
        river(REACH);
        for (int i = 0; i < 5; i++) boat(0, 9 - i);
        x.rule(REACH, 2, 0);
        for (int a = 0; a < 5; a++) {
            for (int b = 0; b < 5; b++) {
                due(x.gives(a, b, 0, true, false), a == b ? -1 : Math.max(a, b));
            }
        }
    }

    static void theRuleWithTheLeastNumberThatTellsOne() {
        says("Of two BOATS gives way who does so by the RULE with the least number that is in force,"
            + " fits, and tells one");
        river(REACH, BAR);
        boat(0, 4);
        boat(0, 4);
        x.rule(BAR, 0, 0);
        x.rule(REACH, 2, 101);
        x.rule(REACH, 1, 1);
        x.rule(REACH, 0, 1);
        due(x.gives(0, 1, 1, true, false), 0);
        due(x.gives(0, 1, 1, true, true), -1);
        due(x.gives(0, 1, 0, true, false), 0);
        due(x.gives(0, 1, 0, false, true), 1);
        x.bale(0, 1, 10, 1);
        x.lade(0, 0);
        due(x.gives(0, 1, 1, true, false), 0);
        due(x.gives(0, 1, 1, true, true), 1);
        due(x.gives(0, 1, 0, true, false), 1);
        goTo(96);
        due(x.gives(0, 1, 0, true, false), 1);
        x.lose(0);
        due(x.gives(0, 1, 0, true, false), 1);
        goTo(192);
        due(x.gives(0, 1, 0, true, false), -1);
    }

    static void neitherGivesWay() {
        says("Which of two BOATS gives way on a STRETCH today; aUp, bUp: whether they go up."
            + " -1: neither, no such, both are one.");
        due(x.gives(0, 1, 0, true, false), -1);
        river(REACH);
        boat(0, 4);
        boat(0, 5);
        for (int how = 0; how <= 2; how++) {
            due(x.gives(0, 1, 0, true, false), how == 0 ? -1 : 0);
            x.rule(REACH, how, 0);
            for (int b = 0; b < 2; b++) due(x.gives(b, b, 0, true, false), -1);
            for (int bad : outside(0, 1)) {
                due(x.gives(bad, 0, 0, true, false), -1);
                due(x.gives(0, bad, 0, false, true), -1);
                due(x.gives(bad, bad, 0, true, false), -1);
            }
            for (int bad : outside(0, 0)) due(x.gives(0, 1, bad, true, false), -1);
        }
    }
}
