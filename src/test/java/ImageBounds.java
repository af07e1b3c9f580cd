import java.util.Arrays;

/** Boundaries of the image: what it keeps, what it does not keep, and how often it can be gone back to. */
final class ImageBounds extends Bench {
    private static final int SHORTS = 1, FLOATS = 2, MISSING = 3;
    private static final String KEPT = "All (but SHEETS, THE TRACE, how often it was gone back) is kept as an IMAGE";

    private interface Change {
        void on(Counted y);
    }

    private static void nothing(Counted y) {
        due(y.status(), 0);
    }

    /** After an image, a change and back() all is as after an image and back(), and likewise the next time. */
    private static void isUndone(Change change) {
        for (int part = 0; part < Snapshot.PARTS; part++) {
            for (int times = 1; times <= 2; times++) {
                int[] with = afterBack(change, times, part);
                int[] without = afterBack(ImageBounds::nothing, times, part);
                if (!Arrays.equals(with, without)) {
                    due(0, 1);
                    fault("part " + part + " of the snapshot is not as the image has it, after going back " + times);
                }
            }
        }
    }

    private static int[] afterBack(Change change, int times, int part) {
        Counted y = new Counted();
        Scene.MIDST.play(y);
        y.image();
        for (int i = 0; i < times; i++) {
            change.on(y);
            due(y.status(), 0);
            due(y.back(), 5);
        }
        return Snapshot.of(y, part);
    }

    static void whatIsToldOfStretchesIsKept() {
        says(KEPT);
        isUndone(y -> y.stretch(1, 9, 9));
        isUndone(y -> y.gauge(50, 9));
        isUndone(y -> y.gauge(2, -9));
        isUndone(y -> y.gauges(60, FLOATS, 0, 4));
        isUndone(y -> y.shift(1, 0, 9));
        isUndone(y -> y.shift(3, 1, -9));
        isUndone(y -> y.shift(6, 99, 1));
        isUndone(y -> y.cold(1, false));
        isUndone(y -> y.cold(99, true));
        isUndone(y -> y.light(3, true));
        isUndone(y -> y.light(6, false));
    }

    static void boatsAndBalesAreKept() {
        says(KEPT);
        isUndone(y -> y.boat(7, 9, 9, 9));
        isUndone(y -> y.bale(7, 0, 9, 9));
        isUndone(y -> y.lade(0, 0));
        isUndone(y -> y.land(1));
        isUndone(y -> y.lose(1));
        isUndone(y -> y.lose(2));
        isUndone(y -> y.leave(0, true));
        isUndone(y -> y.leave(0, false));
        isUndone(y -> y.wood(0, 4));
        isUndone(y -> {
            y.gauge(0, 9);
            y.off(2);
        });
    }

    static void quartersAndWordsAreKept() {
        says(KEPT);
        isUndone(y -> y.go(1));
        isUndone(y -> y.go(3));
        isUndone(y -> y.go(200));
        isUndone(y -> {
            y.leave(0, true);
            y.go(10);
            y.leave(0, true);
            y.go(10);
        });
        isUndone(y -> {
            y.go(3);
            y.land(2);
        });
    }

    static void yardsTripsAndRulesAreKept() {
        says(KEPT);
        isUndone(y -> y.yard(0, 0));
        isUndone(y -> y.yard(7, 99));
        isUndone(y -> y.trip(6, 7, 0));
        isUndone(y -> y.rule(0, 2, 99));
    }

    static void placesBehindTheImageAreEmptyAgain() {
        says("All is as the IMAGE has it");
        isUndone(y -> {
            y.stretch(3, 1, 9);
            y.shift(7, 0, 5);
            y.light(7, true);
            y.yard(8, 7);
            y.boat(8, 1, 99, 9);
            y.bale(8, 7, 9, 9);
            y.trip(8, 7, 0);
            y.rule(3, 2, 99);
            y.go(30);
            y.lade(8, 4);
            y.leave(4, false);
            y.go(1);
            y.land(8);
        });
    }

    static void everyStretchIsKept() {
        says(KEPT);
        for (int k = 0; k < 10; k++) x.stretch(3, 1 + k, 10);
        x.shift(4, 0, 7);
        x.light(5, true);
        x.image();
        for (int k = 0; k < 10; k++) {
            x.light(k, k != 5);
            x.shift(k, 0, k - 10);
            x.shift(k, 99, 5);
            x.cold(k, true);
        }
        done(x.back(), 0);
        for (int k = 0; k < 10; k++) {
            due(x.stretchTold(k, 3), k == 5 ? 1 : 0);
            due(x.stretchTold(k, 4), k == 4 ? 7 : 0);
            due(x.water(k, 99), k == 4 ? 3 : 10);
            done(x.cold(k, false), 0);
        }
    }

    static void everyLandingIsKept() {
        says(KEPT);
        for (int k = 0; k < 10; k++) x.stretch(0, 1, 10);
        boat(0, 1);
        for (int l = 0; l <= 10; l++) x.yard(l, 10 + l);
        x.image();
        for (int l = 0; l <= 10; l++) x.yard(l, 50);
        for (int l = 0; l < 10; l++) {
            x.leave(0, DOWN);
            x.go(1);
            due(x.box(l + 1, l, 1), l);
        }
        x.leave(0, UP);
        x.go(1);
        for (int l = 9; l > 0; l--) {
            x.leave(0, UP);
            x.go(1);
        }
        due(x.box(0, 0, 1), 19);
        done(x.back(), 0);
        for (int l = 0; l <= 10; l++) {
            for (int k = 0; k < 10; k++) due(x.box(l, k, 1), NO);
            done(x.yard(l, 0), 10 + l);
        }
    }

    static void everyBoatAndBaleIsKept() {
        says(KEPT);
        x.stretch(0, 4, 10);
        for (int b = 0; b < 5; b++) boat(0, 1 + b);
        for (int i = 0; i < 12; i++) x.bale(0, 1, 10 + i, 1);
        for (int i = 0; i < 5; i++) x.lade(i, i);
        x.image();
        for (int i = 5; i < 12; i++) x.lade(i, i % 5);
        for (int b = 0; b < 5; b++) x.leave(b, DOWN);
        x.go(4);
        for (int i = 0; i < 11; i++) x.land(i);
        x.lose(11);
        due(x.count(6), 11);
        done(x.back(), 0);
        due(x.count(6), 0);
        for (int i = 0; i < 12; i++) {
            due(x.baleTold(i, 0), i < 5 ? 1 : 0);
            due(x.baleTold(i, 1), i < 5 ? i : 0);
        }
        for (int b = 0; b < 5; b++) {
            due(x.boatTold(b, 0), 0);
            due(x.boatTold(b, 1), 0);
            due(x.boatTold(b, 3), 10 + b);
            due(x.boatTold(b, 5), 99);
            due(x.knows(b, 0, 0), NO);
        }
    }

    static void wordsAreKeptWhole() {
        says(KEPT);
        river(0);
        boat(0, 1);
        x.leave(0, DOWN);
        x.go(4);
        x.image();
        x.gauge(0, 5);
        x.leave(0, UP);
        x.go(4);
        x.leave(0, DOWN);
        x.go(4);
        due(x.knows(0, 0, 0), 15);
        due(x.box(1, 0, 0), 15);
        done(x.back(), 4);
        due(x.knows(0, 0, 0), 10);
        due(x.knows(0, 0, 1), 0);
        due(x.box(1, 0, 0), 10);
        due(x.box(1, 0, 1), 0);
        due(x.box(0, 0, 0), NO);
    }

    /** The boat goes down all ten stretches and up again. */
    private static void thereAndBack() {
        for (int i = 0; i < 20; i++) {
            x.leave(0, i < 10 ? DOWN : UP);
            x.go(1);
        }
    }

    static void wordsOnEveryStretchAreKept() {
        says(KEPT);
        for (int k = 0; k < 10; k++) x.stretch(0, 1, 10);
        boat(0, 1);
        thereAndBack();
        x.image();
        x.gauge(0, 5);
        thereAndBack();
        for (int k = 0; k < 10; k++) {
            due(x.knows(0, k, 0), 15);
            due(x.knows(0, k, 1), 39 - k);
        }
        done(x.back(), 20);
        for (int k = 0; k < 10; k++) {
            due(x.knows(0, k, 0), 10);
            due(x.knows(0, k, 1), 19 - k);
            due(x.box(0, k, 0), 10);
            due(x.box(0, k, 1), 19 - k);
            due(x.box(10, k, 0), 10);
            due(x.box(10, k, 1), k);
        }
    }

    static void tillWhenABoatIsUnderWayIsKept() {
        says(KEPT);
        river(0, 0);
        boat(0, 1);
        x.leave(0, DOWN);
        x.go(1);
        x.image();
        x.go(3);
        x.leave(0, DOWN);
        due(x.boatTold(0, 2), 8);
        done(x.back(), 1);
        due(x.boatTold(0, 0), 1);
        due(x.boatTold(0, 1), 0);
        due(x.boatTold(0, 2), 4);
        x.go(2);
        due(x.boatTold(0, 0), 1);
        x.go(1);
        due(x.boatTold(0, 0), 0);
        due(x.boatTold(0, 1), 1);
    }

    static void whereABoatAgroundCameFromIsKept() {
        says(KEPT);
        river(1, 1);
        boat(1, 11);
        done(x.leave(0, DOWN), 0);
        x.image();
        x.shift(0, 0, -5);
        x.shift(1, 0, -5);
        done(x.off(0), 1);
        done(x.leave(0, UP), 4);
        x.go(4);
        x.shift(0, 0, 0);
        done(x.leave(0, DOWN), 0);
        due(x.boatTold(0, 1), 0);
        done(x.back(), 0);
        due(x.boatTold(0, 0), 3);
        due(x.boatTold(0, 1), 1);
        x.shift(1, 0, -1);
        done(x.off(0), 1);
    }

    static void sheetsAreNotKept() {
        says(KEPT);
        Scene.MIDST.play(x);
        done(x.image(), 1);
        x.sheet(MISSING, SHORTS, 2);
        x.cell(SHORTS, 4, 77);
        x.sheet(0, -1, 0);
        x.cell(FLOATS, 0, 9);
        x.none(FLOATS, 3);
        done(x.back(), 5);
        done(x.forge(2, 1, MISSING), 0);
        done(x.forge(2, 4, SHORTS), 77);
        no(10, x.cell(0, 0, 0));
        x.gauges(90, FLOATS, 0, 1);
        due(x.height(90), 4);
        int told = x.gauges(91, FLOATS, 3, 1);
        done(x.gauge(90, 0), told);
    }

    static void theTraceIsNotKept() {
        says(KEPT);
        Scene.MIDST.play(x);
        due(x.count(9), 8);
        x.image();
        done(x.act(0, 1, 0), 20);
        done(x.back(), 5);
        due(x.count(9), 2);
        due(x.trace(0), 11);
        due(x.trace(1), 10);
        due(x.trace(2), -1);
    }

    static void howOftenItWasGoneBackIsNotKept() {
        says("how often it was gone back");
        done(x.image(), 1);
        for (int i = 0; i < 10; i++) {
            done(x.back(), i);
            x.go(1);
            done(x.image(), 1);
        }
        no(2, x.back());
        done(x.image(), 1);
        no(2, x.back());
        due(x.count(5), 10);
    }

    static void inPlaceOfOneBefore() {
        says("is kept as an IMAGE, in place of one before: 1.");
        for (int q = 0; q < 3; q++) {
            done(x.image(), 1);
            x.go(7);
        }
        done(x.back(), 14);
        done(x.back(), 14);
        x.stretch(0, 4, 10);
        done(x.image(), 1);
        x.stretch(0, 4, 10);
        done(x.back(), 14);
        due(x.count(0), 1);
    }

    static void anImageOfANewObject() {
        says("All is as the IMAGE has it, which stays: THE QUARTER.");
        x.image();
        for (int k = 0; k < 10; k++) x.stretch(3, 4, 10);
        boat(10, 1);
        x.bale(10, 0, 9, 9);
        x.trip(0, 10, 0);
        x.rule(3, 2, 99);
        x.gauge(0, 9);
        x.yard(10, 9);
        x.go(40);
        done(x.back(), 0);
        int[] counts = {0, 0, 0, 0, 0, 0, 0, 0, 1, 0};
        for (int what = 0; what <= 9; what++) due(x.count(what), counts[what]);
        due(x.height(0), 0);
        no(1, x.yard(1, 0));
        done(x.gauge(5, 0), 1);
        done(x.stretch(3, 4, 10), 0);
        due(x.lights(), 0);
        done(x.boat(0, 1, 9, 9), 0);
    }

    static void theImageStays() {
        says("All is as the IMAGE has it, which stays");
        x.stretch(0, 4, 10);
        boat(0, 1);
        x.go(3);
        x.image();
        for (int i = 0; i < 10; i++) {
            done(x.leave(0, DOWN), 4);
            x.go(4);
            due(x.boatTold(0, 1), 1);
            due(x.box(1, 0, 1), 3);
            done(x.back(), 3);
            due(x.boatTold(0, 1), 0);
            due(x.boatTold(0, 5), 99);
            due(x.box(1, 0, 1), NO);
            due(x.knows(0, 0, 1), NO);
        }
    }

    static void tenTimesBackAtMost() {
        says("STATUS 2 (this was done 10 times), 3 (there is none).");
        for (int i = 0; i < 12; i++) no(3, x.back());
        x.go(9);
        x.image();
        x.go(1);
        for (int i = 0; i < 10; i++) done(x.back(), 9);
        x.go(1);
        for (int i = 0; i < 12; i++) no(2, x.back());
        due(x.count(5), 10);
    }
}
