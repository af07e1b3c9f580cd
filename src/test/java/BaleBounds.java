/** Boundaries of bales: lading, landing, losing, what is told of them, and what to lade. */
final class BaleBounds extends Bench {
    private static final int REACH = 0;
    private static final int AT_LANDING = 0, ABOARD = 1, PAID = 2, LOST = 3;

    private static void isBale(int bale, int how, int place) {
        due(x.baleTold(bale, 0), how);
        due(x.baleTold(bale, 1), place);
    }

    /** A bale that stands at the boat's landing goes aboard. */
    private static void laden(int bale, int boat) {
        x.lade(bale, boat);
        due(x.status(), 0);
    }

    // ---- what a bale is ----

    static void twelveBalesFrom0() {
        says("BALES (12 at most, numbered from 0)");
        river(REACH);
        for (int i = 0; i < 12; i++) {
            due(x.count(2), i);
            due(x.baleTold(i, 0), -1);
            done(x.bale(i % 2, 1 - i % 2, i + 1, i), i);
        }
        no(2, x.bale(0, 1, 1, 1));
        due(x.count(2), 12);
        for (int i = 0; i < 12; i++) due(x.baleTold(i, 3), i + 1);
        due(x.baleTold(12, 0), -1);
    }

    static void weightAndRateHaveBounds() {
        says("are for a LANDING, have a WEIGHT (1 .. 200) and a RATE (0 .. 999)");
        river(REACH);
        for (int bad : outside(1, 200)) no(1, x.bale(0, 1, bad, 5));
        for (int bad : outside(0, 999)) no(1, x.bale(0, 1, 5, bad));
        due(x.count(2), 0);
        done(x.bale(0, 1, 1, 0), 0);
        done(x.bale(0, 1, 200, 999), 1);
        due(x.baleTold(0, 3), 1);
        due(x.baleTold(0, 4), 0);
        due(x.baleTold(1, 3), 200);
        due(x.baleTold(1, 4), 999);
    }

    static void fromALandingToAnotherOne() {
        says("A BALE: its number. STATUS 1 (also: from a LANDING to itself), 2.");
        no(1, x.bale(0, 0, 5, 5));
        no(1, x.bale(0, 1, 5, 5));
        river(REACH, REACH);
        for (int bad : outside(0, 2)) {
            no(1, x.bale(bad, 1, 5, 5));
            no(1, x.bale(1, bad, 5, 5));
            no(1, x.bale(bad, bad, 5, 5));
        }
        for (int l = 0; l <= 2; l++) no(1, x.bale(l, l, 5, 5));
        done(x.bale(0, 2, 5, 5), 0);
        done(x.bale(2, 0, 5, 5), 1);
        isBale(0, AT_LANDING, 0);
        isBale(1, AT_LANDING, 2);
        due(x.baleTold(0, 2), 2);
        due(x.baleTold(1, 2), 0);
    }

    static void eachIsAtALandingAboardPaidOrLost() {
        says("each is at a LANDING, aboard of a BOAT, PAID or LOST");
        river(REACH);
        boat(0, 1);
        boat(0, 1);
        for (int i = 0; i < 4; i++) x.bale(0, 1, 5, 5);
        for (int i = 1; i < 4; i++) laden(i, 1);
        x.leave(1, DOWN);
        x.go(4);
        x.land(2);
        x.lose(3);
        isBale(0, AT_LANDING, 0);
        isBale(1, ABOARD, 1);
        isBale(2, PAID, 1);
        isBale(3, LOST, -1);
    }

    static void whatIsToldOfABale() {
        says("0 how it is (0 at a LANDING, 1 aboard, 2 PAID, 3 LOST), 1 its LANDING, BOAT (PAID: where; LOST: -1),"
            + " 2 for which LANDING, 3 WEIGHT, 4 RATE. -1: no such.");
        for (int what = 0; what <= 4; what++) due(x.baleTold(0, what), -1);
        river(REACH, REACH);
        x.bale(0, 1, 5, 6);
        x.bale(2, 1, 50, 60);
        int[] told = {AT_LANDING, 2, 1, 50, 60};
        for (int what = 0; what <= 4; what++) due(x.baleTold(1, what), told[what]);
        for (int bad : outside(0, 4)) due(x.baleTold(1, bad), -1);
        for (int bad : outside(0, 1)) for (int what = 0; what <= 4; what++) due(x.baleTold(bad, what), -1);
        boat(2, 1);
        laden(1, 0);
        x.lose(1);
        int[] lost = {LOST, -1, 1, 50, 60};
        for (int what = 0; what <= 4; what++) due(x.baleTold(1, what), lost[what]);
    }

    // ---- lade ----

    static void ladeUpToTheRoom() {
        says("or it would be above ROOM");
        river(REACH);
        x.boat(0, 1, 20, 9);
        x.bale(0, 1, 21, 1);
        x.bale(0, 1, 20, 1);
        x.bale(0, 1, 1, 1);
        no(3, x.lade(0, 0));
        done(x.lade(1, 0), 3);
        no(3, x.lade(2, 0));
        due(x.boatTold(0, 3), 20);
        x.land(1);
        done(x.lade(2, 0), 1);
        no(3, x.lade(1, 0));
        due(x.boatTold(0, 3), 1);
    }

    static void ladeUpToTheLargestRoom() {
        says("have a HULL (1 .. 30), ROOM (1 .. 999)");
        river(REACH);
        x.boat(0, 1, 999, 9);
        for (int i = 0; i < 4; i++) x.bale(0, 1, 200, 1);
        for (int i = 0; i < 4; i++) laden(i, 0);
        x.bale(0, 1, 199, 1);
        x.bale(0, 1, 1, 1);
        x.bale(0, 1, 200, 1);
        no(3, x.lade(6, 0));
        done(x.lade(4, 0), 100);
        no(3, x.lade(5, 0));
        due(x.boatTold(0, 3), 999);
    }

    static void ladeAtOneLandingOnly() {
        says("`int lade(int bale, int boat)`: A BALE comes aboard of a BOAT: its DRAUGHT then."
            + " STATUS 1, 3 (they are not at one LANDING");
        river(REACH, REACH);
        boat(0, 1);
        boat(1, 1);
        x.bale(0, 2, 5, 1);
        x.bale(1, 2, 5, 1);
        for (int bad : outside(0, 1)) {
            no(1, x.lade(bad, 0));
            no(1, x.lade(0, bad));
            no(1, x.lade(bad, bad));
        }
        no(3, x.lade(0, 1));
        no(3, x.lade(1, 0));
        done(x.lade(0, 0), 1);
        isBale(0, ABOARD, 0);
        no(3, x.lade(0, 0));
        no(3, x.lade(0, 1));
        isBale(0, ABOARD, 0);
        due(x.boatTold(0, 3), 5);
        due(x.boatTold(1, 3), 0);
    }

    static void ladeNoBaleThatIsPaidOrLost() {
        says("STATUS 1, 3 (they are not at one LANDING");
        river(REACH);
        boat(0, 1);
        x.bale(0, 1, 5, 1);
        x.bale(0, 1, 5, 1);
        laden(0, 0);
        laden(1, 0);
        x.leave(0, DOWN);
        x.go(4);
        done(x.land(0), 1);
        done(x.lose(1), 1);
        no(3, x.lade(0, 0));
        no(3, x.lade(1, 0));
        isBale(0, PAID, 1);
        isBale(1, LOST, -1);
        due(x.boatTold(0, 3), 0);
    }

    static void ladeNoBoatUnderWayOrAground() {
        says("STATUS 1, 3 (they are not at one LANDING");
        river(REACH, REACH);
        boat(1, 1);
        boat(1, 1);
        boat(1, 11);
        for (int l = 0; l <= 2; l++) x.bale(l, (l + 1) % 3, 5, 1);
        x.leave(0, UP);
        x.leave(1, DOWN);
        x.leave(2, DOWN);
        for (int bale = 0; bale < 3; bale++) for (int b = 0; b < 3; b++) no(3, x.lade(bale, b));
        for (int bale = 0; bale < 3; bale++) isBale(bale, AT_LANDING, bale);
    }

    // ---- land and lose ----

    static void landedElsewhereOrWhereItIsFor() {
        says("A BALE aboard of a BOAT at a LANDING comes there; if it is for it, it is PAID: the LANDING."
            + " STATUS 1, 3.");
        river(REACH, REACH);
        boat(0, 1);
        x.bale(0, 2, 15, 7);
        no(1, x.land(1));
        for (int bad : outside(0, 0)) no(1, x.land(bad));
        no(3, x.land(0));
        laden(0, 0);
        done(x.land(0), 0);
        isBale(0, AT_LANDING, 0);
        no(3, x.land(0));
        laden(0, 0);
        x.leave(0, DOWN);
        no(3, x.land(0));
        x.go(4);
        done(x.land(0), 1);
        isBale(0, AT_LANDING, 1);
        due(x.count(6), 0);
        laden(0, 0);
        x.leave(0, DOWN);
        x.go(4);
        done(x.land(0), 2);
        isBale(0, PAID, 2);
        due(x.count(6), 7);
        due(x.boatTold(0, 3), 0);
        no(3, x.land(0));
        due(x.count(6), 7);
    }

    static void landNothingFromABoatAground() {
        says("A BALE aboard of a BOAT at a LANDING comes there");
        river(REACH);
        boat(0, 10);
        x.bale(0, 1, 10, 7);
        laden(0, 0);
        x.leave(0, DOWN);
        no(3, x.land(0));
        isBale(0, ABOARD, 0);
        x.gauge(0, 1);
        no(3, x.land(0));
        x.off(0);
        done(x.land(0), 0);
    }

    static void landNothingLost() {
        says("comes there; if it is for it, it is PAID: the LANDING. STATUS 1, 3.");
        river(REACH);
        boat(0, 1);
        x.bale(0, 1, 10, 7);
        laden(0, 0);
        x.lose(0);
        no(3, x.land(0));
        isBale(0, LOST, -1);
        due(x.count(6), 0);
    }

    static void paidRatesAreCounted() {
        says("6 RATES that were PAID");
        river(REACH);
        boat(0, 1);
        int[] rates = {999, 0, 1, 999, 500};
        for (int i = 0; i < 5; i++) {
            x.bale(0, 1, 5, rates[i]);
            laden(i, 0);
        }
        x.leave(0, DOWN);
        x.go(4);
        due(x.count(6), 0);
        int[] paid = {999, 999, 1000, 1999};
        for (int i = 0; i < 4; i++) {
            x.land(i);
            due(x.count(6), paid[i]);
        }
        x.lose(4);
        due(x.count(6), 1999);
    }

    static void loseOnlyWhatIsAboard() {
        says("`int lose(int bale)`: A BALE aboard is LOST: 1. STATUS 1, 3 (it is not aboard).");
        no(1, x.lose(0));
        river(REACH, REACH);
        boat(1, 1);
        boat(1, 9);
        for (int i = 0; i < 5; i++) x.bale(1, 2, 10, 7);
        for (int bad : outside(0, 4)) no(1, x.lose(bad));
        no(3, x.lose(0));
        laden(0, 0);
        laden(1, 0);
        laden(2, 1);
        laden(3, 1);
        done(x.lose(0), 1);
        isBale(0, LOST, -1);
        no(3, x.lose(0));
        x.leave(0, UP);
        x.leave(1, DOWN);
        due(x.boatTold(1, 0), 3);
        done(x.lose(1), 1);
        done(x.lose(2), 1);
        due(x.boatTold(0, 3), 0);
        due(x.boatTold(1, 3), 10);
        x.gauge(0, 9);
        x.off(1);
        x.leave(1, DOWN);
        x.go(4);
        x.land(3);
        no(3, x.lose(3));
        isBale(3, PAID, 2);
        no(3, x.lose(4));
        isBale(4, AT_LANDING, 1);
    }

    // ---- lading ----

    static void ladingWithinTheRoom() {
        says("that weigh with what is aboard no more than its ROOM");
        river(REACH);
        for (int room : new int[] {20, 21, 19, 7}) x.boat(0, 1, room, 9);
        x.bale(0, 1, 12, 3);
        x.bale(0, 1, 8, 1);
        x.bale(0, 1, 9, 2);
        due(x.lading(0, 99), 1 + 2);
        due(x.lading(1, 99), 1 + 4);
        due(x.lading(2, 99), 1);
        due(x.lading(3, 99), 0);
        laden(1, 0);
        due(x.lading(0, 99), 1);
        x.bale(0, 1, 3, 9);
        due(x.lading(0, 99), 4 + 8);
        due(x.lading(3, 99), 8);
    }

    static void ladingWithinTheWater() {
        says("with which its DRAUGHT is not above that WATER");
        river(REACH);
        boat(0, 5);
        x.bale(0, 1, 9, 1);
        x.bale(0, 1, 1, 1);
        x.bale(0, 1, 10, 1);
        due(x.lading(0, 5), 2);
        due(x.lading(0, 6), 1 + 2);
        due(x.lading(0, 7), 1 + 2 + 4);
        laden(1, 0);
        due(x.lading(0, 4), -1);
        due(x.lading(0, 5), 0);
        due(x.lading(0, 6), 1);
        due(x.lading(0, 7), 1 + 4);
        laden(0, 0);
        due(x.lading(0, 5), -1);
        due(x.lading(0, 6), 0);
        due(x.lading(0, 7), 4);
    }

    static void ladingOfTheMostRates() {
        says("of the most RATES together");
        river(REACH);
        x.boat(0, 1, 100, 9);
        x.bale(0, 1, 50, 10);
        x.bale(0, 1, 60, 12);
        x.bale(0, 1, 50, 10);
        x.bale(0, 1, 100, 19);
        due(x.lading(0, 99), 1 + 4);
        x.bale(0, 1, 100, 21);
        due(x.lading(0, 99), 16);
        x.bale(0, 1, 40, 10);
        due(x.lading(0, 99), 2 + 32);
    }

    static void ladingOfTheLeastWeight() {
        says("of like ones the least WEIGHT");
        river(REACH);
        x.boat(0, 1, 100, 9);
        x.bale(0, 1, 50, 10);
        x.bale(0, 1, 49, 10);
        x.bale(0, 1, 51, 10);
        x.bale(0, 1, 99, 20);
        due(x.lading(0, 99), 1 + 2);
        x.bale(0, 1, 98, 20);
        due(x.lading(0, 99), 16);
        x.bale(0, 1, 97, 20);
        x.bale(0, 1, 1, 0);
        due(x.lading(0, 99), 32);
    }

    static void ladingOfTheLeastBits() {
        says("of like ones the least number as bits");
        river(REACH);
        x.boat(0, 1, 20, 9);
        x.bale(0, 1, 20, 10);
        x.bale(0, 1, 10, 5);
        x.bale(0, 1, 10, 5);
        due(x.lading(0, 99), 1);
        x.bale(0, 1, 10, 5);
        laden(1, 0);
        due(x.lading(0, 99), 4);
        river(REACH);
        x.boat(0, 1, 20, 9);
        for (int i = 0; i < 3; i++) x.bale(0, 1, 10, 5);
        x.bale(0, 1, 20, 10);
        due(x.lading(0, 99), 1 + 2);
    }

    static void ladingWithoutRatesIsNothing() {
        says("of like ones the least WEIGHT");
        river(REACH);
        boat(0, 1);
        for (int i = 0; i < 12; i++) x.bale(0, 1, 1, 0);
        due(x.lading(0, MOST), 0);
    }

    static void ladingOfAllTwelve() {
        says("BALES (12 at most, numbered from 0)");
        river(REACH);
        x.boat(0, 1, 999, 9);
        for (int i = 0; i < 12; i++) x.bale(0, 1, 83, 999);
        due(x.lading(0, MOST), 4095);
        due(x.lading(0, 100), 4095);
        due(x.lading(0, 99), 2047);
        due(x.lading(0, 1), 0);
    }

    static void ladingOnlyOfBalesThatAreThere() {
        says("LADING: for a BOAT at a LANDING and a told WATER: the set of BALES that are there");
        river(REACH, REACH);
        boat(1, 1);
        boat(1, 1);
        x.bale(0, 1, 10, 900);
        x.bale(1, 2, 10, 1);
        x.bale(2, 1, 10, 900);
        x.bale(1, 2, 10, 900);
        x.bale(1, 2, 10, 900);
        laden(3, 1);
        laden(4, 0);
        due(x.lading(0, 99), 2);
        due(x.lading(1, 99), 2);
        x.lose(3);
        due(x.lading(0, 99), 2);
        x.land(4);
        due(x.lading(1, 99), 2 + 16);
        laden(4, 0);
        x.leave(0, DOWN);
        x.go(4);
        due(x.lading(0, 99), 4);
        x.land(4);
        due(x.lading(0, 99), 4);
    }

    static void ladingForAnyWater() {
        says("LADING for a WATER (any number), as bits.");
        river(REACH);
        x.boat(0, 1, 30, 9);
        x.bale(0, 1, 10, 1);
        due(x.lading(0, LEAST), -1);
        due(x.lading(0, -1), -1);
        due(x.lading(0, 0), -1);
        due(x.lading(0, 1), 0);
        due(x.lading(0, 2), 1);
        due(x.lading(0, MOST), 1);
    }

    static void noLadingAwayFromLandings() {
        says("-1: the BOAT is at no LANDING, no such; also if its DRAUGHT is above that WATER as it is.");
        due(x.lading(0, 99), -1);
        river(REACH);
        boat(0, 1);
        boat(0, 11);
        x.bale(0, 1, 10, 1);
        for (int bad : outside(0, 1)) due(x.lading(bad, 99), -1);
        due(x.lading(1, 10), -1);
        due(x.lading(1, 11), 0);
        x.leave(0, DOWN);
        x.leave(1, DOWN);
        due(x.lading(0, 99), -1);
        due(x.lading(1, 99), -1);
        x.go(4);
        due(x.lading(0, 99), 0);
    }

    static void ladingLadesNothing() {
        says("`int lading(int boat, int water)`: LADING for a WATER (any number), as bits.");
        river(REACH);
        boat(0, 1);
        x.bale(0, 1, 10, 1);
        no(1, x.go(0));
        due(x.lading(0, 99), 1);
        due(x.lading(0, 99), 1);
        due(x.status(), 1);
        due(x.boatTold(0, 3), 0);
        isBale(0, AT_LANDING, 0);
    }
}
