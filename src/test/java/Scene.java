/** What has been done of an object before a call is tried on it. */
enum Scene {
    /** Nothing. */
    NEW,
    /** Seven stretches of all kinds, boats and bales in every way they can be, room left for more of all. */
    MIDST,
    /** The same, and no room left for a stretch, boat, bale, trip or rule. */
    FULL,
    /** The same as MIDST, in the last quarter. */
    LAST_QUARTER,
    /** The same as MIDST, and gone back ten times. */
    GONE_BACK;

    void play(Counted y) {
        if (this == NEW) return;
        rows(y);
        boatsAndBales(y);
        y.image();
        y.back();
        afterTheImage(y);
        if (this == FULL) fill(y);
        if (this == LAST_QUARTER) for (int i = 0; i < 48; i++) y.go(i < 47 ? 200 : 194);
        if (this == GONE_BACK) for (int i = 0; i < 9; i++) y.back();
    }

    private static void rows(Counted y) {
        for (int kind : new int[] {0, 1, 2, 3, 4, 5, 3}) y.stretch(kind, 4, 10);
        y.gauge(2, 5);
        y.gauge(0, 0);
        y.shift(3, 1, 2);
        y.cold(1, true);
        y.light(6, true);
        y.yard(0, 2);
        y.yard(2, 3);
        y.yard(5, 1);
        y.trip(0, 7, 1);
        y.trip(3, 2, 1);
        y.rule(1, 1, 9);
        y.rule(0, 2, 109);
        y.sheet(0, 0, 6);
        y.sheet(1, 1, 5);
        y.sheet(2, 2, 4);
        for (int k = 0; k < 3; k++) for (int i = 0; i < 4; i++) y.cell(k, i, 5 + 3 * k + i);
        y.none(2, 1);
        y.act(3, 3, 7);
    }

    /**
     * Boat 0 at landing 2 with bale 1 aboard; boat 1 under way on stretch 1; boat 2 aground on stretch 3; boat 3 at
     * landing 5 without wood. Bales 0 and 6 at landing 2, 7 at landing 4, 2 and 3 aboard of boats 1 and 2, 4 paid,
     * 5 lost.
     */
    private static void boatsAndBales(Counted y) {
        y.boat(1, 4, 30, 20);
        y.boat(1, 4, 99, 20);
        y.boat(3, 9, 99, 20);
        y.boat(6, 5, 99, 4);
        int[] from = {2, 1, 1, 3, 1, 1, 2, 4};
        int[] to = {0, 3, 5, 0, 2, 2, 5, 0};
        int[] weights = {10, 20, 15, 25, 5, 5, 11, 40};
        for (int i = 0; i < 8; i++) y.bale(from[i], to[i], weights[i], 10 * i + 3);
        y.lade(1, 0);
        y.lade(4, 0);
        y.lade(5, 0);
        y.lade(2, 1);
        y.lade(3, 2);
        y.leave(0, true);
        y.leave(2, true);
        y.leave(3, false);
        y.go(4);
        y.land(4);
        y.lose(5);
        y.leave(1, true);
    }

    private static void afterTheImage(Counted y) {
        y.go(1);
        y.gauge(1, 2);
        y.yard(4, 9);
    }

    private static void fill(Counted y) {
        for (int i = 7; i < 10; i++) y.stretch(1, 3, 9);
        y.boat(8, 9, 9, 9);
        for (int i = 8; i < 12; i++) y.bale(7, 6, 9, 9);
        for (int i = 2; i < 6; i++) y.trip(1, 2, 3);
        for (int i = 2; i < 8; i++) y.rule(2, 2, 99);
    }
}
