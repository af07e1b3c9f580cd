/** Boundaries of boats: draught, words, leaving, going on, coming off, wood, and what is told of them. */
final class BoatBounds extends Bench {
    private static final int REACH = 0, BAR = 1, CROSSING = 3, LOCK = 4, ICE = 5;
    private static final int AT_LANDING = 0, UNDER_WAY_DOWN = 1, UNDER_WAY_UP = 2, AGROUND = 3;

    private static void isBoat(int boat, int how, int place, int until) {
        due(x.boatTold(boat, 0), how);
        due(x.boatTold(boat, 1), place);
        due(x.boatTold(boat, 2), until);
    }

    private static void knows(int boat, int stretch, int water, int quarter) {
        due(x.knows(boat, stretch, 0), water);
        due(x.knows(boat, stretch, 1), quarter);
    }

    private static void box(int landing, int stretch, int water, int quarter) {
        due(x.box(landing, stretch, 0), water);
        due(x.box(landing, stretch, 1), quarter);
    }

    // ---- what a boat is ----

    static void fiveBoatsFrom0() {
        says("BOATS (5 at most, numbered from 0)");
        for (int i = 0; i < 5; i++) {
            due(x.count(1), i);
            due(x.boatTold(i, 0), -1);
            done(x.boat(0, i + 1, 9, 9), i);
        }
        no(2, x.boat(0, 1, 9, 9));
        due(x.count(1), 5);
        for (int i = 0; i < 5; i++) due(x.boatTold(i, 4), i + 1);
        due(x.boatTold(5, 0), -1);
    }

    static void hullRoomAndTankHaveBounds() {
        says("have a HULL (1 .. 30), ROOM (1 .. 999), a TANK (1 .. 99) full of WOOD at first");
        for (int bad : outside(1, 30)) no(1, x.boat(0, bad, 9, 9));
        for (int bad : outside(1, 999)) no(1, x.boat(0, 9, bad, 9));
        for (int bad : outside(1, 99)) no(1, x.boat(0, 9, 9, bad));
        due(x.count(1), 0);
        done(x.boat(0, 1, 1, 1), 0);
        done(x.boat(0, 30, 999, 99), 1);
        due(x.boatTold(0, 4), 1);
        due(x.boatTold(0, 5), 1);
        due(x.boatTold(1, 4), 30);
        due(x.boatTold(1, 5), 99);
        x.yard(0, 1);
        no(3, x.wood(0, 1));
        no(3, x.wood(1, 1));
    }

    static void aBoatIsAtOneOfTheLandings() {
        says("A BOAT at a LANDING that KNOWS nothing (the BOX stays as it is): its number. STATUS 1, 2.");
        for (int bad : outside(0, 0)) no(1, x.boat(bad, 9, 9, 9));
        x.stretch(REACH, 4, 10);
        for (int bad : outside(0, 1)) no(1, x.boat(bad, 9, 9, 9));
        done(x.boat(1, 9, 9, 9), 0);
        done(x.boat(0, 9, 9, 9), 1);
        isBoat(0, AT_LANDING, 1, 0);
        isBoat(1, AT_LANDING, 0, 0);
    }

    static void aNewBoatTakesNothingFromTheBox() {
        says("that KNOWS nothing (the BOX stays as it is)");
        river(REACH, REACH);
        boat(0, 1);
        x.leave(0, DOWN);
        x.go(4);
        box(1, 0, 10, 0);
        boat(1, 1);
        for (int k = 0; k < 2; k++) knows(1, k, NO, NO);
        box(1, 0, 10, 0);
        knows(0, 0, 10, 0);
        x.leave(1, UP);
        knows(1, 0, 10, 4);
    }

    static void draughtIsHullAndATenthCut() {
        says("DRAUGHT: HULL, and a tenth (cut) of the WEIGHT that is aboard");
        river(REACH);
        boat(0, 3);
        int[] weights = {9, 1, 9, 1, 10, 199};
        int[] draughts = {3, 4, 4, 5, 6, 25};
        int aboard = 0;
        for (int i = 0; i < 6; i++) {
            x.bale(0, 1, weights[i], 1);
            aboard += weights[i];
            done(x.lade(i, 0), draughts[i]);
            due(x.boatTold(0, 3), aboard);
            due(x.boatTold(0, 4), draughts[i]);
        }
        done(x.lose(0), 1);
        due(x.boatTold(0, 4), 25);
        done(x.lose(1), 1);
        due(x.boatTold(0, 3), 219);
        due(x.boatTold(0, 4), 24);
    }

    static void theLargestDraught() {
        says("DRAUGHT: HULL, and a tenth (cut) of the WEIGHT that is aboard");
        river(REACH);
        x.boat(0, 30, 999, 9);
        int[] weights = {200, 200, 200, 200, 199};
        for (int i = 0; i < 5; i++) {
            x.bale(0, 1, weights[i], 1);
            x.lade(i, 0);
        }
        due(x.boatTold(0, 3), 999);
        due(x.boatTold(0, 4), 129);
    }

    static void upIsToTheLesserLanding() {
        says("A BOAT is at a LANDING, UNDER WAY on a STRETCH, up (to the lesser LANDING) or down, or AGROUND on one");
        river(REACH, REACH);
        boat(1, 1);
        boat(1, 1);
        boat(1, 11);
        done(x.leave(0, UP), 4);
        done(x.leave(1, DOWN), 4);
        done(x.leave(2, DOWN), 0);
        isBoat(0, UNDER_WAY_UP, 0, 4);
        isBoat(1, UNDER_WAY_DOWN, 1, 4);
        isBoat(2, AGROUND, 1, 0);
        x.go(4);
        isBoat(0, AT_LANDING, 0, 0);
        isBoat(1, AT_LANDING, 2, 0);
        isBoat(2, AGROUND, 1, 0);
    }

    static void whatIsToldOfABoat() {
        says("0 how it is (0 at a LANDING, 1 UNDER WAY down, 2 up, 3 AGROUND), 1 its LANDING, or STRETCH,"
            + " 2 till which QUARTER it is UNDER WAY (0 else), 3 WEIGHT aboard, 4 DRAUGHT, 5 WOOD. -1: no such.");
        for (int what = 0; what <= 5; what++) due(x.boatTold(0, what), -1);
        river(REACH, REACH);
        x.boat(0, 2, 99, 9);
        x.boat(2, 3, 99, 8);
        x.bale(2, 1, 33, 1);
        x.lade(0, 1);
        for (int bad : outside(0, 5)) due(x.boatTold(1, bad), -1);
        for (int bad : outside(0, 1)) for (int what = 0; what <= 5; what++) due(x.boatTold(bad, what), -1);
        x.go(3);
        x.leave(1, UP);
        int[] told = {UNDER_WAY_UP, 1, 7, 33, 6, 4};
        for (int what = 0; what <= 5; what++) due(x.boatTold(1, what), told[what]);
        due(x.boatTold(0, 5), 9);
    }

    // ---- words ----

    static void aWordIsWaterAndQuarter() {
        says("A WORD on a STRETCH is a WATER and the QUARTER in which it was seen.");
        river(ICE, REACH);
        x.stretch(REACH, 4, 0);
        x.cold(0, true);
        x.gauge(0, -1);
        boat(0, 1);
        boat(3, 1);
        done(x.leave(0, DOWN), 0);
        knows(0, 0, 0, 0);
        x.go(5);
        done(x.leave(1, UP), 0);
        knows(1, 2, -1, 5);
        knows(1, 1, NO, NO);
    }

    static void oneWordOnEachStretch() {
        says("Each BOAT KNOWS one WORD on each STRETCH at most, each LANDING has a BOX, likewise.");
        river(REACH, REACH);
        boat(1, 1);
        x.leave(0, DOWN);
        x.go(4);
        x.gauge(0, 7);
        x.leave(0, UP);
        knows(0, 1, 17, 4);
        x.go(4);
        x.leave(0, UP);
        x.go(4);
        knows(0, 0, 17, 8);
        knows(0, 1, 17, 4);
        box(2, 1, 10, 0);
        box(1, 1, 17, 4);
        box(1, 0, NO, NO);
        box(0, 0, 17, 8);
        box(0, 1, 17, 4);
        knows(0, 0, 17, 8);
    }

    static void tenStretchesCanBeKnown() {
        says("Each BOAT KNOWS one WORD on each STRETCH at most, each LANDING has a BOX, likewise.");
        for (int k = 0; k < 10; k++) x.stretch(REACH, 1, 10 + k);
        boat(0, 1);
        for (int k = 0; k < 10; k++) {
            done(x.leave(0, DOWN), 1);
            x.go(1);
        }
        for (int k = 0; k < 10; k++) {
            knows(0, k, 10 + k, k);
            box(10, k, 10 + k, k);
        }
        box(9, 9, NO, NO);
        box(9, 8, 18, 8);
        box(0, 0, NO, NO);
    }

    static void theLaterWordGoesToTheBoat() {
        says("When a BOAT comes to a LANDING, for each STRETCH: of its own WORD and the BOX's"
            + " both have the one of the later QUARTER then");
        for (int rise = -5; rise <= 5; rise += 5) {
            river(REACH, REACH);
            boat(0, 1);
            boat(0, 1);
            x.leave(0, DOWN);
            x.go(1);
            x.gauge(0, rise);
            x.leave(1, DOWN);
            x.go(4);
            knows(0, 0, 10, 0);
            knows(1, 0, 10 + rise, 1);
            box(1, 0, 10 + rise, 1);
            x.leave(0, DOWN);
            x.go(4);
            x.leave(0, UP);
            x.go(4);
            knows(0, 0, 10 + rise, 1);
            box(1, 0, 10 + rise, 1);
            box(2, 0, 10, 0);
        }
    }

    static void theLaterWordGoesToTheBox() {
        says("of its own WORD and the BOX's both have the one of the later QUARTER then");
        for (int rise = -4; rise <= 4; rise += 4) {
            river(REACH);
            boat(0, 1);
            boat(1, 1);
            x.leave(0, DOWN);
            x.go(4);
            box(1, 0, 10, 0);
            x.gauge(0, rise);
            x.leave(1, UP);
            x.go(4);
            x.gauge(0, 2 * rise);
            x.leave(1, DOWN);
            x.go(4);
            box(1, 0, 10 + 2 * rise, 8);
            knows(1, 0, 10 + 2 * rise, 8);
            box(0, 0, 10 + rise, 4);
            knows(0, 0, 10, 0);
        }
    }

    static void ofLikeWordsEachKeepsItsOwn() {
        says("(of like ones each keeps its own; none is older than any)");
        river(REACH);
        boat(0, 1);
        boat(0, 1);
        x.leave(0, DOWN);
        x.gauge(0, 5);
        x.leave(1, DOWN);
        x.go(4);
        knows(0, 0, 10, 0);
        box(1, 0, 10, 0);
        knows(1, 0, 15, 0);
        river(REACH);
        boat(0, 1);
        boat(0, 1);
        x.gauge(0, 5);
        x.leave(0, DOWN);
        x.gauge(0, 0);
        x.leave(1, DOWN);
        x.go(4);
        knows(0, 0, 15, 0);
        box(1, 0, 15, 0);
        knows(1, 0, 10, 0);
    }

    static void noWordIsOlderThanAny() {
        says("none is older than any");
        river(REACH, REACH);
        boat(0, 1);
        boat(2, 1);
        x.leave(0, DOWN);
        x.go(4);
        knows(0, 0, 10, 0);
        box(1, 0, 10, 0);
        box(1, 1, NO, NO);
        knows(0, 1, NO, NO);
        x.leave(1, UP);
        x.go(4);
        knows(1, 0, 10, 0);
        knows(1, 1, 10, 4);
        box(1, 1, 10, 4);
        box(1, 0, 10, 0);
    }

    static void whatABoatKnows() {
        says("`int knows(int boat, int stretch, int what)`: The WORD that a BOAT KNOWS on a STRETCH:"
            + " 0 WATER, 1 the QUARTER. NO: none, no such.");
        due(x.knows(0, 0, 0), NO);
        river(REACH, REACH);
        boat(0, 1);
        boat(0, 1);
        knows(1, 0, NO, NO);
        x.go(2);
        x.leave(1, DOWN);
        knows(1, 0, 10, 2);
        knows(1, 1, NO, NO);
        knows(0, 0, NO, NO);
        for (int bad : outside(0, 1)) {
            due(x.knows(bad, 0, 0), NO);
            due(x.knows(1, bad, 0), NO);
            due(x.knows(1, 0, bad), NO);
        }
    }

    static void whatABoxHas() {
        says("`int box(int landing, int stretch, int what)`: The WORD of a BOX, likewise.");
        due(x.box(0, 0, 0), NO);
        river(REACH, REACH);
        boat(1, 1);
        x.go(2);
        x.leave(0, DOWN);
        box(2, 1, NO, NO);
        x.go(4);
        box(2, 1, 10, 2);
        box(2, 0, NO, NO);
        box(1, 1, NO, NO);
        for (int bad : outside(0, 2)) due(x.box(bad, 1, 0), NO);
        for (int bad : outside(0, 1)) {
            due(x.box(2, bad, 0), NO);
            due(x.box(2, 1, bad), NO);
        }
    }

    // ---- why a boat can't leave ----

    static void why1ItIsAtNoLanding() {
        says("WHY it can't, the least that holds: 1 it is at none");
        river(REACH);
        x.boat(0, 1, 9, 4);
        x.boat(0, 11, 9, 4);
        x.leave(0, DOWN);
        x.leave(1, DOWN);
        for (int i = 0; i < 2; i++) {
            due(x.why(i, DOWN), 1);
            due(x.why(i, UP), 1);
            no(21, x.leave(i, DOWN));
            no(21, x.leave(i, UP));
        }
    }

    static void why2ThereIsNoStretch() {
        says("2 there is no STRETCH");
        boat(0, 1);
        due(x.why(0, UP), 2);
        due(x.why(0, DOWN), 2);
        no(22, x.leave(0, UP));
        no(22, x.leave(0, DOWN));
        for (int k = 0; k < 10; k++) x.stretch(REACH, 4, 10);
        boat(10, 1);
        due(x.why(0, UP), 2);
        due(x.why(0, DOWN), 0);
        due(x.why(1, UP), 0);
        due(x.why(1, DOWN), 2);
        no(22, x.leave(1, DOWN));
    }

    static void why3ItKnowsOfLessWater() {
        says("3 it KNOWS a WORD on it with less WATER than its DRAUGHT");
        river(REACH);
        boat(0, 9);
        x.bale(0, 1, 10, 1);
        x.bale(0, 1, 10, 1);
        x.leave(0, DOWN);
        x.go(4);
        x.leave(0, UP);
        x.go(4);
        x.gauge(0, 40);
        x.lade(0, 0);
        due(x.boatTold(0, 4), 10);
        due(x.why(0, DOWN), 0);
        x.lade(1, 0);
        due(x.why(0, DOWN), 3);
        no(23, x.leave(0, DOWN));
        x.land(1);
        done(x.leave(0, DOWN), 4);
        knows(0, 0, 50, 8);
    }

    static void why3IsOfItsOwnWordOnThatStretch() {
        says("3 it KNOWS a WORD on it with less WATER than its DRAUGHT");
        river(REACH, REACH);
        boat(1, 11);
        boat(1, 11);
        done(x.leave(0, DOWN), 0);
        x.gauge(0, 1);
        done(x.off(0), 1);
        box(1, 1, 10, 0);
        due(x.why(0, DOWN), 3);
        due(x.why(0, UP), 0);
        due(x.why(1, DOWN), 0);
        done(x.leave(1, DOWN), 4);
    }

    static void why4ItsWoodIsTooLittle() {
        says("4 its WOOD is less than what is LONG now");
        river(REACH);
        x.boat(0, 1, 9, 3);
        x.boat(0, 1, 9, 4);
        due(x.why(0, DOWN), 4);
        no(24, x.leave(0, DOWN));
        due(x.why(1, DOWN), 0);
        done(x.leave(1, DOWN), 4);
        due(x.boatTold(1, 5), 0);
        due(x.boatTold(0, 5), 3);
    }

    static void why4IsOfLongNow() {
        says("4 its WOOD is less than what is LONG now");
        river(CROSSING);
        x.boat(0, 1, 9, 4);
        x.boat(0, 1, 9, 11);
        x.boat(0, 1, 9, 12);
        x.go(23);
        due(x.why(0, DOWN), 4);
        due(x.why(1, DOWN), 4);
        due(x.why(2, DOWN), 0);
        x.light(0, true);
        due(x.why(0, DOWN), 0);
        x.light(0, false);
        x.go(1);
        due(x.why(0, DOWN), 0);
        x.go(48);
        due(x.why(1, DOWN), 4);
        done(x.leave(2, DOWN), 12);
        due(x.boatTold(2, 2), 84);
        due(x.boatTold(2, 5), 0);
    }

    static void theLeastReasonThatHolds() {
        says("LEAVING: a BOAT goes up or down from a LANDING. WHY it can't, the least that holds");
        river(REACH, LOCK);
        x.boat(0, 1, 100, 4);
        x.bale(1, 0, 99, 1);
        x.leave(0, DOWN);
        due(x.boatTold(0, 5), 0);
        due(x.why(0, DOWN), 1);
        no(21, x.leave(0, DOWN));
        x.go(4);
        due(x.why(0, UP), 4);
        x.lade(0, 0);
        due(x.boatTold(0, 4), 10);
        due(x.why(0, UP), 4);
        x.land(0);
        x.bale(1, 0, 1, 1);
        x.lade(0, 0);
        x.lade(1, 0);
        due(x.boatTold(0, 4), 11);
        due(x.why(0, UP), 3);
        no(23, x.leave(0, UP));
        due(x.why(0, DOWN), 4);
        x.boat(0, 1, 9, 1);
        due(x.why(1, UP), 2);
        no(22, x.leave(1, UP));
        due(x.why(1, DOWN), 4);
    }

    static void whyOfNoSuchBoat() {
        says("WHY a BOAT can't leave: 0 .. 4. -1: no such.");
        due(x.why(0, DOWN), -1);
        river(REACH);
        boat(0, 1);
        for (int bad : outside(0, 0)) {
            due(x.why(bad, DOWN), -1);
            due(x.why(bad, UP), -1);
        }
        due(x.why(0, DOWN), 0);
        due(x.boatTold(0, 0), AT_LANDING);
        knows(0, 0, NO, NO);
    }

    // ---- leaving ----

    static void draughtOfJustTheWater() {
        says("if its DRAUGHT is more than WATER today, it is AGROUND there");
        river(REACH);
        x.boat(0, 10, 99, 4);
        x.boat(0, 11, 99, 4);
        done(x.leave(0, DOWN), 4);
        isBoat(0, UNDER_WAY_DOWN, 0, 4);
        done(x.leave(1, DOWN), 0);
        isBoat(1, AGROUND, 0, 0);
        due(x.boatTold(0, 5), 0);
        due(x.boatTold(1, 5), 4);
    }

    static void waterOfTodayCounts() {
        says("if its DRAUGHT is more than WATER today, it is AGROUND there");
        river(BAR);
        boat(0, 10);
        boat(0, 10);
        boat(0, 10);
        x.shift(0, 1, 1);
        x.shift(0, 2, 0);
        goTo(95);
        done(x.leave(0, DOWN), 4);
        x.go(1);
        done(x.leave(1, DOWN), 0);
        knows(1, 0, 9, 96);
        goTo(192);
        done(x.leave(2, DOWN), 4);
        knows(2, 0, 10, 192);
    }

    static void iceBearsNoBoatOnColdDays() {
        says("of ICE 0 on COLD DAYS");
        river(ICE);
        boat(0, 1);
        x.gauge(0, 40);
        x.cold(0, true);
        done(x.leave(0, DOWN), 0);
        knows(0, 0, 0, 0);
        no(3, x.off(0));
        x.cold(0, false);
        done(x.off(0), 0);
    }

    static void woodIsSoManyLess() {
        says("it is UNDER WAY till as many QUARTERS later as is LONG now, and its WOOD is so many less");
        river(CROSSING, LOCK);
        x.boat(0, 1, 9, 99);
        x.boat(1, 1, 9, 99);
        x.go(22);
        done(x.leave(0, DOWN), 12);
        done(x.leave(1, DOWN), 8);
        isBoat(0, UNDER_WAY_DOWN, 0, 34);
        isBoat(1, UNDER_WAY_DOWN, 1, 30);
        due(x.boatTold(0, 5), 87);
        due(x.boatTold(1, 5), 91);
        x.light(0, true);
        x.go(7);
        isBoat(1, UNDER_WAY_DOWN, 1, 30);
        x.go(1);
        isBoat(1, AT_LANDING, 2, 0);
        x.go(3);
        isBoat(0, UNDER_WAY_DOWN, 0, 34);
        x.go(1);
        isBoat(0, AT_LANDING, 1, 0);
    }

    static void inBothItKnowsTheWater() {
        says("In both it KNOWS then WATER of THE QUARTER.");
        river(REACH);
        boat(0, 12);
        boat(0, 13);
        x.go(100);
        x.gauge(0, 9);
        x.gauge(1, 2);
        done(x.leave(0, DOWN), 4);
        done(x.leave(1, DOWN), 0);
        knows(0, 0, 12, 100);
        knows(1, 0, 12, 100);
        box(0, 0, NO, NO);
        box(1, 0, NO, NO);
    }

    static void leavingTellsHowLong() {
        says("`int leave(int boat, boolean down)`: LEAVING: how LONG it is UNDER WAY; 0: it is AGROUND."
            + " STATUS 1, 21 .. 24.");
        x.stretch(REACH, 1, 10);
        x.stretch(CROSSING, 20, 10);
        boat(0, 1);
        for (int bad : outside(0, 0)) {
            no(1, x.leave(bad, DOWN));
            no(1, x.leave(bad, UP));
        }
        done(x.leave(0, DOWN), 1);
        x.go(1);
        done(x.leave(0, DOWN), 28);
    }

    // ---- the quarter goes on ----

    static void goFrom1To200() {
        says("THE QUARTER goes n (1 .. 200) on: what it is. STATUS 1, 2 (beyond 9599).");
        for (int bad : outside(1, 200)) no(1, x.go(bad));
        due(x.count(5), 0);
        done(x.go(1), 1);
        done(x.go(200), 201);
        goTo(9598);
        no(2, x.go(2));
        no(2, x.go(200));
        for (int bad : outside(1, 200)) no(1, x.go(bad));
        done(x.go(1), 9599);
        no(2, x.go(1));
        for (int bad : outside(1, 200)) no(1, x.go(bad));
        due(x.count(5), 9599);
    }

    static void quartersGoOneByOne() {
        says("THE QUARTER goes on, one by one");
        river(REACH, REACH);
        boat(0, 1);
        boat(2, 1);
        x.leave(1, UP);
        x.go(1);
        x.leave(0, DOWN);
        x.go(200);
        knows(0, 1, 10, 0);
        knows(0, 0, 10, 1);
        knows(1, 0, NO, NO);
        knows(1, 1, 10, 0);
        box(1, 0, 10, 1);
        box(1, 1, 10, 0);
    }

    static void boatsComeByTheirNumbers() {
        says("BOATS, by numbers, that are UNDER WAY till THE QUARTER come to the LANDING");
        for (int first = 0; first < 2; first++) {
            river(REACH, REACH);
            boat(first == 0 ? 0 : 2, 1);
            boat(first == 0 ? 2 : 0, 1);
            x.leave(0, first == 0);
            x.leave(1, first != 0);
            x.go(4);
            int own = first;
            knows(0, own, 10, 0);
            knows(0, 1 - own, NO, NO);
            knows(1, own, 10, 0);
            knows(1, 1 - own, 10, 0);
        }
    }

    static void aBoatComesInItsQuarterOnly() {
        says("UNDER WAY till THE QUARTER come to the LANDING");
        river(REACH);
        boat(0, 1);
        x.leave(0, DOWN);
        x.go(3);
        isBoat(0, UNDER_WAY_DOWN, 0, 4);
        box(1, 0, NO, NO);
        x.go(1);
        isBoat(0, AT_LANDING, 1, 0);
        box(1, 0, 10, 0);
        river(REACH);
        boat(0, 1);
        x.leave(0, DOWN);
        x.go(200);
        isBoat(0, AT_LANDING, 1, 0);
    }

    static void aBoatMayBeUnderWayBeyondTheLastQuarter() {
        says("THE QUARTER is 0 at first, 9599 at most");
        river(REACH);
        boat(0, 1);
        boat(1, 1);
        goTo(9595);
        done(x.leave(0, DOWN), 4);
        x.go(1);
        done(x.leave(1, UP), 4);
        x.go(3);
        isBoat(0, AT_LANDING, 1, 0);
        isBoat(1, UNDER_WAY_UP, 0, 9600);
        no(2, x.go(1));
        isBoat(1, UNDER_WAY_UP, 0, 9600);
    }

    // ---- off ----

    static void offWithJustTheWater() {
        says("a BOAT AGROUND comes off, if its DRAUGHT is not more than WATER today");
        river(REACH);
        boat(0, 12);
        x.leave(0, DOWN);
        no(3, x.off(0));
        x.gauge(0, 1);
        no(3, x.off(0));
        isBoat(0, AGROUND, 0, 0);
        x.gauge(0, 2);
        done(x.off(0), 0);
        isBoat(0, AT_LANDING, 0, 0);
        no(3, x.off(0));
    }

    static void offByTheDraughtItHasNow() {
        says("a BOAT AGROUND comes off, if its DRAUGHT is not more than WATER today");
        river(REACH);
        boat(0, 9);
        x.bale(0, 1, 10, 1);
        x.bale(0, 1, 9, 1);
        x.bale(0, 1, 1, 1);
        for (int i = 0; i < 3; i++) x.lade(i, 0);
        done(x.leave(0, DOWN), 0);
        no(3, x.off(0));
        x.lose(2);
        done(x.off(0), 0);
    }

    static void offByTheWaterOfToday() {
        says("a BOAT AGROUND comes off, if its DRAUGHT is not more than WATER today");
        river(BAR);
        boat(0, 11);
        x.shift(0, 1, -1);
        x.leave(0, DOWN);
        goTo(95);
        no(3, x.off(0));
        x.go(1);
        done(x.off(0), 0);
    }

    static void offToTheLandingItLeft() {
        says("it is at the LANDING from which it left (it comes to it)");
        river(REACH, REACH, REACH);
        boat(1, 11);
        boat(2, 11);
        boat(2, 1);
        x.leave(0, DOWN);
        x.leave(1, UP);
        isBoat(0, AGROUND, 1, 0);
        isBoat(1, AGROUND, 1, 0);
        x.leave(2, DOWN);
        x.go(4);
        x.leave(2, UP);
        x.go(4);
        box(2, 2, 10, 4);
        x.gauge(0, 1);
        done(x.off(0), 1);
        done(x.off(1), 2);
        isBoat(0, AT_LANDING, 1, 0);
        isBoat(1, AT_LANDING, 2, 0);
        box(1, 1, 10, 0);
        box(2, 1, 10, 0);
        knows(1, 2, 10, 4);
        knows(0, 2, NO, NO);
    }

    static void offOnlyAground() {
        says("`int off(int boat)`: OFF: the LANDING. STATUS 1, 3 (it is not AGROUND, or does not come off).");
        no(1, x.off(0));
        river(REACH);
        boat(0, 1);
        boat(0, 1);
        boat(0, 11);
        x.leave(1, DOWN);
        x.leave(2, DOWN);
        for (int bad : outside(0, 2)) no(1, x.off(bad));
        for (int i = 0; i < 3; i++) no(3, x.off(i));
        isBoat(1, UNDER_WAY_DOWN, 0, 4);
        isBoat(2, AGROUND, 0, 0);
    }

    // ---- wood ----

    static void priceFrom0To99() {
        says("LANDINGS have a PRICE of a cord (0 .. 99; 0: none is sold; 0 at first)");
        river(REACH);
        for (int l = 0; l < 2; l++) {
            done(x.yard(l, 99), 0);
            for (int bad : outside(0, 99)) no(1, x.yard(l, bad));
            done(x.yard(l, 0), 99);
            done(x.yard(l, 1), 0);
            done(x.yard(l, 5), 1);
        }
        for (int bad : outside(0, 1)) no(1, x.yard(bad, 5));
    }

    static void theElevenYardsAreTheirOwn() {
        says("`int yard(int landing, int price)`: PRICE of a cord at a LANDING: what it was. STATUS 1.");
        for (int k = 0; k < 10; k++) x.stretch(REACH, 4, 10);
        for (int l = 0; l <= 10; l++) done(x.yard(l, 10 + l), 0);
        for (int l = 0; l <= 10; l++) done(x.yard(l, 0), 10 + l);
        for (int l = 0; l <= 10; l++) done(x.yard(l, 0), 0);
    }

    static void woodOnlyWhereItIsSold() {
        says("A BOAT at a LANDING where wood is sold takes n (1 .. 99) cords: its WOOD then.");
        river(REACH);
        x.boat(0, 1, 9, 99);
        x.leave(0, DOWN);
        x.yard(0, 7);
        x.yard(1, 7);
        no(3, x.wood(0, 1));
        x.go(4);
        x.yard(1, 0);
        no(3, x.wood(0, 1));
        x.yard(1, 1);
        done(x.wood(0, 1), 96);
        done(x.wood(0, 3), 99);
    }

    static void woodFrom1To99() {
        says("takes n (1 .. 99) cords");
        for (int k = 0; k < 10; k++) x.stretch(REACH, k < 9 ? 10 : 9, 10);
        x.boat(0, 1, 9, 99);
        for (int k = 0; k < 10; k++) {
            x.leave(0, DOWN);
            x.go(10);
        }
        due(x.boatTold(0, 5), 0);
        x.yard(10, 1);
        for (int bad : outside(1, 99)) no(1, x.wood(0, bad));
        due(x.boatTold(0, 5), 0);
        done(x.wood(0, 99), 99);
        no(3, x.wood(0, 1));
        no(3, x.wood(0, 99));
        for (int bad : outside(1, 99)) no(1, x.wood(0, bad));
        for (int bad : outside(0, 0)) no(1, x.wood(bad, 1));
    }

    static void woodUpToTheTank() {
        says("STATUS 1, 3 (also: beyond its TANK).");
        river(REACH);
        x.boat(0, 1, 9, 10);
        x.boat(0, 11, 9, 10);
        x.yard(0, 1);
        x.yard(1, 1);
        no(3, x.wood(0, 1));
        x.leave(0, DOWN);
        x.leave(1, DOWN);
        no(3, x.wood(1, 1));
        x.go(4);
        no(3, x.wood(0, 5));
        due(x.boatTold(0, 5), 6);
        done(x.wood(0, 4), 10);
        no(3, x.wood(0, 1));
    }
}
