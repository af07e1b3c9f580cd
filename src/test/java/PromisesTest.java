/** One method for each promise of ../shared/DOC.md: what is due, its edges, and what is refused. */
public final class PromisesTest extends Bench {
    static void promise1() {
        says("## Promise 1: A new object");
        fresh();
        for (int what = 0; what <= 7; what++) due(x.count(what), 0);
        due(x.count(8), 1);
        due(x.count(9), 0);
        due(x.status(), 0);
        due(x.yard(0, 5), 0);
        no(1, x.yard(1, 5));
        due(x.height(0), 0);
        due(x.stretchTold(0, 0), NO);
        due(x.boatTold(0, 0), -1);
        due(x.baleTold(0, 0), -1);
        due(x.trace(0), -1);
        due(x.lights(), 0);
        no(10, x.cell(0, 0, 1));
        no(3, x.back());
        due(RiverSteamers.NONE, -1);
        due(RiverSteamers.NO, -1000);
    }

    static void promise2() {
        says("## Promise 2: stretch");
        fresh();
        no(1, x.stretch(-1, 1, 0));
        no(1, x.stretch(6, 1, 0));
        no(1, x.stretch(0, 0, 0));
        no(1, x.stretch(0, 21, 0));
        no(1, x.stretch(0, 1, -1));
        no(1, x.stretch(0, 1, 100));
        due(x.count(0), 0);
        for (int i = 0; i < 10; i++) done(x.stretch(i % 6, 1 + 2 * i, 11 * i), i);
        done(x.yard(10, 1), 0);
        no(1, x.yard(11, 1));
        no(2, x.stretch(0, 1, 0));
        no(1, x.stretch(0, 1, 100));
        due(x.count(0), 10);
        due(x.stretchTold(9, 0), 3);
        due(x.stretchTold(9, 1), 19);
        due(x.stretchTold(9, 2), 99);
        // stretch, the ends
        fresh();
        done(x.stretch(5, 20, 99), 0);
        done(x.stretch(0, 1, 0), 1);
    }

    static void promise3() {
        says("## Promise 3: gauge");
        fresh();
        done(x.gauge(0, -20), 1);
        done(x.gauge(99, 40), 2);
        done(x.gauge(0, 7), 2);
        due(x.height(0), 7);
        due(x.height(99), 40);
        no(1, x.gauge(-1, 0));
        no(1, x.gauge(100, 0));
        no(1, x.gauge(0, -21));
        no(1, x.gauge(0, 41));
        due(x.height(0), 7);
        done(x.gauge(50, 0), 3);
    }

    static void promise4() {
        says("## Promise 4: shift");
        river(0, 1, 2, 3, 4, 5);
        done(x.shift(1, 0, 20), 1);
        done(x.shift(3, 99, -20), 1);
        no(3, x.shift(0, 0, 1));
        no(3, x.shift(2, 0, 1));
        no(3, x.shift(4, 0, 1));
        no(3, x.shift(5, 0, 1));
        no(1, x.shift(-1, 0, 1));
        no(1, x.shift(6, 0, 1));
        no(1, x.shift(1, -1, 1));
        no(1, x.shift(1, 100, 1));
        no(1, x.shift(1, 0, 21));
        no(1, x.shift(1, 0, -21));
        no(1, x.shift(0, 0, 21));
        no(1, x.shift(0, 100, 0));
        due(x.stretchTold(1, 4), 20);
        due(x.water(1, 0), -10);
        due(x.water(3, 99), 30);
        due(x.water(3, 98), 10);
        done(x.shift(1, 5, -3), 1);
        done(x.shift(1, 5, 4), 1);
        due(x.water(1, 4), -10);
        due(x.water(1, 5), 6);
        due(x.water(1, 99), 6);
        done(x.shift(1, 5, 0), 1);
        due(x.water(1, 6), 10);
        done(x.shift(1, 2, 1), 1);
        due(x.water(1, 2), 9);
        due(x.water(1, 7), 10);
    }

    static void promise5() {
        says("## Promise 5: cold");
        river(5, 0);
        done(x.cold(0, false), 0);
        done(x.cold(0, true), 1);
        done(x.cold(0, true), 0);
        due(x.water(0, 0), 0);
        due(x.water(1, 0), 10);
        due(x.water(0, 1), 10);
        done(x.cold(0, false), 1);
        due(x.water(0, 0), 10);
        done(x.cold(99, true), 1);
        due(x.water(0, 99), 0);
        no(1, x.cold(-1, true));
        no(1, x.cold(100, true));
    }

    static void promise6() {
        says("## Promise 6: light");
        river(0, 1, 2, 3, 4, 5);
        due(x.stretchTold(3, 3), 0);
        done(x.light(3, false), 0);
        done(x.light(3, true), 1);
        due(x.stretchTold(3, 3), 1);
        done(x.light(3, true), 0);
        done(x.light(3, false), 1);
        for (int k : new int[] {0, 1, 2, 4, 5}) no(3, x.light(k, true));
        due(x.stretchTold(1, 3), 0);
        no(1, x.light(-1, true));
        no(1, x.light(6, true));
    }

    static void promise7() {
        says("## Promise 7: boat");
        river(0, 0);
        no(1, x.boat(-1, 1, 1, 1));
        no(1, x.boat(3, 1, 1, 1));
        no(1, x.boat(0, 0, 1, 1));
        no(1, x.boat(0, 31, 1, 1));
        no(1, x.boat(0, 1, 0, 1));
        no(1, x.boat(0, 1, 1000, 1));
        no(1, x.boat(0, 1, 1, 0));
        no(1, x.boat(0, 1, 1, 100));
        done(x.boat(2, 30, 999, 99), 0);
        done(x.boat(0, 1, 1, 1), 1);
        due(x.boatTold(0, 0), 0);
        due(x.boatTold(0, 1), 2);
        due(x.boatTold(0, 2), 0);
        due(x.boatTold(0, 3), 0);
        due(x.boatTold(0, 4), 30);
        due(x.boatTold(0, 5), 99);
        due(x.boatTold(1, 5), 1);
        for (int i = 2; i < 5; i++) done(x.boat(1, 5, 5, 5), i);
        no(2, x.boat(1, 5, 5, 5));
        no(1, x.boat(1, 31, 5, 5));
        due(x.count(1), 5);
        done(x.go(1), 1);
        due(x.count(7), 0);
        // a new boat knows nothing
        river(0, 0);
        x.boat(0, 1, 1, 9);
        x.leave(0, true);
        x.go(4);
        due(x.box(1, 0, 1), 0);
        done(x.boat(1, 1, 1, 9), 1);
        due(x.knows(1, 0, 0), NO);
        due(x.box(1, 0, 1), 0);
        due(x.box(1, 0, 0), 10);
    }

    static void promise8() {
        says("## Promise 8: bale");
        river(0, 0);
        no(1, x.bale(-1, 0, 1, 0));
        no(1, x.bale(3, 0, 1, 0));
        no(1, x.bale(0, -1, 1, 0));
        no(1, x.bale(0, 3, 1, 0));
        no(1, x.bale(1, 1, 1, 0));
        no(1, x.bale(0, 1, 0, 0));
        no(1, x.bale(0, 1, 201, 0));
        no(1, x.bale(0, 1, 1, -1));
        no(1, x.bale(0, 1, 1, 1000));
        done(x.bale(2, 0, 200, 999), 0);
        for (int i = 1; i < 12; i++) done(x.bale(0, 2, 1, 0), i);
        no(2, x.bale(0, 2, 1, 0));
        no(1, x.bale(0, 0, 1, 0));
        due(x.count(2), 12);
        due(x.baleTold(0, 0), 0);
        due(x.baleTold(0, 1), 2);
        due(x.baleTold(0, 2), 0);
        due(x.baleTold(0, 3), 200);
        due(x.baleTold(0, 4), 999);
    }

    static void promise9() {
        says("## Promise 9: lade");
        river(0, 0);
        x.boat(0, 3, 39, 50);
        x.boat(1, 3, 500, 50);
        x.boat(0, 3, 500, 50);
        x.bale(0, 2, 19, 5);
        x.bale(0, 2, 21, 5);
        x.bale(0, 2, 20, 5);
        x.bale(1, 0, 200, 5);
        no(1, x.lade(-1, 0));
        no(1, x.lade(4, 0));
        no(1, x.lade(0, -1));
        no(1, x.lade(0, 3));
        no(1, x.lade(3, 3));
        no(3, x.lade(0, 1));
        done(x.lade(0, 0), 4);
        due(x.baleTold(0, 0), 1);
        due(x.baleTold(0, 1), 0);
        no(3, x.lade(0, 0));
        no(3, x.lade(0, 2));
        no(3, x.lade(1, 0));
        due(x.boatTold(0, 3), 19);
        done(x.lade(2, 0), 6);
        due(x.boatTold(0, 3), 39);
        due(x.boatTold(0, 4), 6);
        done(x.lade(3, 1), 23);
        no(3, x.lade(1, 1));
        done(x.leave(2, true), 4);
        no(3, x.lade(1, 2));
        // lade, what is paid, lost or of a boat aground
        river(1, 0);
        x.boat(0, 20, 99, 50);
        x.bale(0, 1, 5, 5);
        x.bale(0, 1, 5, 5);
        x.bale(0, 1, 5, 5);
        x.lade(0, 0);
        x.lose(0);
        no(3, x.lade(0, 0));
        due(x.boatTold(0, 3), 0);
        done(x.leave(0, true), 0);
        no(3, x.lade(1, 0));
        x.boat(0, 5, 99, 50);
        x.lade(1, 1);
        x.leave(1, true);
        x.go(4);
        due(x.baleTold(1, 0), 1);
        done(x.land(1), 1);
        no(3, x.lade(1, 1));
    }

    static void promise10() {
        says("## Promise 10: land");
        river(0, 0);
        x.boat(0, 3, 500, 50);
        x.bale(0, 2, 40, 7);
        x.bale(0, 1, 30, 11);
        x.bale(0, 2, 30, 13);
        no(1, x.land(-1));
        no(1, x.land(3));
        no(3, x.land(0));
        for (int i = 0; i < 3; i++) x.lade(i, 0);
        done(x.land(2), 0);
        due(x.baleTold(2, 0), 0);
        due(x.boatTold(0, 3), 70);
        x.leave(0, true);
        no(3, x.land(0));
        x.go(4);
        done(x.land(0), 1);
        due(x.baleTold(0, 0), 0);
        due(x.baleTold(0, 1), 1);
        due(x.count(6), 0);
        done(x.land(1), 1);
        due(x.baleTold(1, 0), 2);
        due(x.baleTold(1, 1), 1);
        due(x.boatTold(0, 3), 0);
        due(x.boatTold(0, 4), 3);
        due(x.count(6), 11);
        no(3, x.land(1));
        done(x.lade(0, 0), 7);
        x.leave(0, true);
        x.go(4);
        done(x.land(0), 2);
        due(x.count(6), 18);
    }

    static void promise11() {
        says("## Promise 11: lose");
        river(0, 0);
        x.boat(0, 3, 500, 50);
        x.bale(0, 2, 40, 7);
        x.bale(0, 2, 25, 7);
        no(1, x.lose(-1));
        no(1, x.lose(2));
        no(3, x.lose(0));
        x.lade(0, 0);
        x.lade(1, 0);
        done(x.lose(0), 1);
        due(x.baleTold(0, 0), 3);
        due(x.baleTold(0, 1), -1);
        due(x.baleTold(0, 2), 2);
        due(x.boatTold(0, 3), 25);
        due(x.boatTold(0, 4), 5);
        no(3, x.lose(0));
        no(3, x.land(0));
        x.leave(0, true);
        done(x.lose(1), 1);
        due(x.boatTold(0, 4), 3);
        due(x.count(6), 0);
    }

    static void promise12() {
        says("## Promise 12: leave");
        river(0, 4, 3);
        x.boat(1, 10, 500, 20);
        no(1, x.leave(-1, true));
        no(1, x.leave(1, true));
        done(x.leave(0, true), 8);
        due(x.boatTold(0, 0), 1);
        due(x.boatTold(0, 1), 1);
        due(x.boatTold(0, 2), 8);
        due(x.boatTold(0, 5), 12);
        due(x.knows(0, 1, 0), 10);
        due(x.knows(0, 1, 1), 0);
        no(21, x.leave(0, true));
        x.go(8);
        due(x.boatTold(0, 1), 2);
        done(x.leave(0, true), 12);
        x.go(12);
        due(x.boatTold(0, 0), 0);
        due(x.boatTold(0, 1), 3);
        due(x.boatTold(0, 5), 0);
        no(22, x.leave(0, true));
        no(24, x.leave(0, false));
        x.yard(3, 1);
        x.wood(0, 12);
        done(x.leave(0, false), 12);
        due(x.boatTold(0, 0), 2);
        due(x.boatTold(0, 1), 2);
        x.go(12);
        due(x.boatTold(0, 1), 2);
        // leave, aground
        river(1);
        x.boat(0, 11, 500, 4);
        done(x.leave(0, true), 0);
        due(x.boatTold(0, 0), 3);
        due(x.boatTold(0, 1), 0);
        due(x.boatTold(0, 2), 0);
        due(x.boatTold(0, 5), 4);
        due(x.knows(0, 0, 0), 10);
        due(x.count(7), 1);
        no(21, x.leave(0, true));
        x.gauge(0, 1);
        done(x.off(0), 0);
        no(23, x.leave(0, true));
        // leave, the words and the wood
        river(1);
        x.boat(0, 11, 500, 3);
        no(24, x.leave(0, true));
        due(x.knows(0, 0, 0), NO);
        due(x.boatTold(0, 0), 0);
        x.boat(0, 10, 500, 4);
        done(x.leave(1, true), 4);
        due(x.boatTold(1, 5), 0);
    }

    static void promise13() {
        says("## Promise 13: off");
        river(1, 0);
        x.boat(1, 12, 500, 40);
        x.boat(0, 1, 500, 40);
        x.leave(1, true);
        x.go(100);
        no(1, x.off(-1));
        no(1, x.off(2));
        no(3, x.off(0));
        no(3, x.off(1));
        done(x.leave(0, false), 0);
        no(3, x.off(0));
        due(x.box(1, 0, 1), 0);
        x.gauge(1, 1);
        no(3, x.off(0));
        x.gauge(1, 2);
        done(x.off(0), 1);
        due(x.boatTold(0, 0), 0);
        due(x.boatTold(0, 1), 1);
        due(x.box(1, 0, 1), 100);
        due(x.box(1, 0, 0), 10);
        no(3, x.off(0));
        // off, while under way, and by water of today
        river(0, 1);
        x.boat(0, 5, 500, 40);
        x.boat(1, 15, 500, 40);
        x.leave(0, true);
        no(3, x.off(0));
        x.leave(1, true);
        x.gauge(0, 0);
        x.gauge(1, 5);
        no(3, x.off(1));
        x.go(95);
        no(3, x.off(1));
        x.go(1);
        done(x.off(1), 1);
    }

    static void promise14() {
        says("## Promise 14: go");
        river(0, 0);
        no(1, x.go(0));
        no(1, x.go(-5));
        no(1, x.go(201));
        no(1, x.go(LEAST));
        no(1, x.go(MOST));
        done(x.go(1), 1);
        done(x.go(200), 201);
        for (int i = 2; i <= 47; i++) done(x.go(200), 200 * i + 1);
        done(x.go(198), 9599);
        no(2, x.go(1));
        no(2, x.go(200));
        no(1, x.go(201));
        due(x.count(5), 9599);
        // go, boats come by their numbers
        river(0, 0);
        x.boat(2, 5, 500, 40);
        x.boat(0, 5, 500, 40);
        x.boat(1, 5, 500, 40);
        x.leave(0, false);
        x.leave(1, true);
        x.go(3);
        due(x.boatTold(0, 0), 2);
        due(x.boatTold(1, 0), 1);
        x.go(1);
        due(x.boatTold(0, 0), 0);
        due(x.boatTold(0, 1), 1);
        due(x.boatTold(1, 1), 1);
        due(x.knows(0, 0, 0), NO);
        due(x.knows(1, 1, 0), 10);
        due(x.box(1, 0, 0), 10);
        due(x.box(1, 1, 0), 10);
        due(x.knows(2, 0, 0), NO);
    }

    static void words() {
        says("A WORD on a STRETCH is a WATER and the QUARTER in which it was seen.");
        river(0, 0);
        x.boat(0, 5, 500, 40);
        x.boat(0, 5, 500, 40);
        x.leave(0, true);
        x.gauge(0, 3);
        x.leave(1, true);
        x.go(4);
        due(x.knows(0, 0, 0), 10);
        due(x.knows(1, 0, 0), 13);
        due(x.box(1, 0, 0), 10);
        x.leave(0, false);
        x.go(4);
        due(x.box(0, 0, 1), 4);
        due(x.box(0, 0, 0), 13);
        x.leave(1, false);
        x.go(4);
        due(x.knows(1, 0, 1), 8);
        due(x.box(0, 0, 1), 8);
        due(x.knows(0, 0, 1), 4);
        due(x.box(1, 0, 1), 0);
        x.gauge(0, 4);
        x.leave(0, true);
        x.go(4);
        due(x.box(1, 0, 1), 12);
        due(x.box(1, 0, 0), 14);
        x.boat(2, 5, 500, 40);
        x.leave(2, false);
        x.go(4);
        due(x.knows(2, 0, 1), 12);
        due(x.knows(2, 0, 0), 14);
    }

    static void promise15() {
        says("## Promise 15: yard");
        river(0);
        done(x.yard(0, 99), 0);
        done(x.yard(0, 0), 99);
        done(x.yard(0, 3), 0);
        done(x.yard(1, 7), 0);
        done(x.yard(1, 8), 7);
        no(1, x.yard(-1, 0));
        no(1, x.yard(2, 0));
        no(1, x.yard(0, -1));
        no(1, x.yard(0, 100));
        done(x.yard(0, 3), 3);
    }

    static void promise16() {
        says("## Promise 16: wood");
        river(0);
        x.boat(0, 5, 500, 10);
        x.yard(1, 1);
        done(x.leave(0, true), 4);
        no(3, x.wood(0, 1));
        x.go(4);
        no(1, x.wood(-1, 1));
        no(1, x.wood(1, 1));
        no(1, x.wood(0, 0));
        no(1, x.wood(0, 100));
        no(3, x.wood(0, 5));
        done(x.wood(0, 1), 7);
        done(x.wood(0, 3), 10);
        no(3, x.wood(0, 1));
        no(3, x.wood(0, 99));
        x.leave(0, false);
        x.go(4);
        no(3, x.wood(0, 1));
        due(x.boatTold(0, 5), 6);
    }

    static void promise17() {
        says("## Promise 17: trip");
        river(3, 3);
        no(1, x.trip(0, 0, 0));
        no(1, x.trip(-1, 0, 0));
        no(1, x.trip(0, 3, 0));
        no(1, x.trip(0, 1, -1));
        no(1, x.trip(0, 1, 10));
        done(x.trip(0, 2, 9), 0);
        done(x.trip(2, 0, 0), 1);
        for (int i = 2; i < 6; i++) done(x.trip(0, 1, 1), i);
        no(2, x.trip(0, 1, 1));
        no(1, x.trip(1, 1, 1));
        due(x.count(3), 6);
        due(x.lights(), 3);
    }

    static void promise18() {
        says("## Promise 18: rule");
        fresh();
        no(1, x.rule(-1, 0, 0));
        no(1, x.rule(6, 0, 0));
        no(1, x.rule(0, -1, 0));
        no(1, x.rule(0, 3, 0));
        no(1, x.rule(0, 0, -1));
        no(1, x.rule(0, 0, 10000));
        no(1, x.rule(0, 0, 100));
        no(1, x.rule(0, 0, 5049));
        no(1, x.rule(0, 0, LEAST));
        done(x.rule(0, 0, 0), 0);
        done(x.rule(5, 2, 9999), 1);
        done(x.rule(0, 1, 5050), 2);
        for (int i = 3; i < 8; i++) done(x.rule(0, 0, 99), i);
        no(2, x.rule(0, 0, 99));
        no(1, x.rule(0, 0, 100));
        due(x.count(4), 8);
    }

    static void promise19and20() {
        says("## Promise 19: image");
        says("## Promise 20: back");
        river(1, 3);
        no(3, x.back());
        x.boat(0, 4, 100, 30);
        x.bale(0, 1, 30, 8);
        x.bale(0, 2, 15, 4);
        x.gauge(3, 5);
        x.shift(0, 1, 2);
        x.yard(1, 4);
        x.trip(0, 2, 0);
        x.rule(0, 2, 99);
        x.lade(0, 0);
        x.leave(0, true);
        done(x.image(), 1);
        x.go(4);
        x.land(0);
        x.light(1, true);
        x.cold(0, true);
        x.gauge(3, 9);
        x.gauge(4, 9);
        x.shift(0, 0, 7);
        x.yard(1, 9);
        x.yard(0, 2);
        x.stretch(3, 3, 3);
        x.shift(2, 0, 5);
        x.light(2, true);
        x.yard(3, 6);
        x.boat(3, 9, 9, 9);
        x.bale(3, 0, 9, 9);
        x.trip(0, 3, 0);
        x.rule(0, 1, 99);
        x.sheet(0, 1, 3);
        x.act(0, 0, 1);
        due(x.count(6), 8);
        done(x.back(), 0);
        int[] counts = {2, 1, 2, 1, 1, 0, 0, 0, 1, 2};
        for (int i = 0; i < counts.length; i++) due(x.count(i), counts[i]);
        due(x.boatTold(0, 0), 1);
        due(x.boatTold(0, 2), 4);
        due(x.boatTold(0, 3), 30);
        due(x.baleTold(0, 0), 1);
        due(x.box(1, 0, 0), NO);
        due(x.stretchTold(1, 3), 0);
        due(x.height(4), 5);
        due(x.water(0, 0), 15);
        due(x.water(0, 1), 13);
        done(x.cold(0, false), 0);
        done(x.yard(1, 1), 4);
        done(x.yard(0, 1), 0);
        due(x.forge(2, 2, 0), 0);
        done(x.gauge(3, 5), 1);
        done(x.stretch(3, 5, 5), 2);
        due(x.stretchTold(2, 3), 0);
        due(x.stretchTold(2, 4), 0);
        done(x.yard(3, 0), 0);
        x.go(4);
        due(x.boatTold(0, 0), 0);
        due(x.boatTold(0, 1), 1);
        due(x.box(1, 0, 0), 15);
        done(x.back(), 0);
        due(x.count(0), 2);
        due(x.boatTold(0, 0), 1);
        x.go(9);
        done(x.image(), 1);
        x.go(7);
        for (int i = 3; i <= 10; i++) done(x.back(), 9);
        x.go(5);
        no(2, x.back());
        due(x.count(5), 14);
        done(x.image(), 1);
        no(2, x.back());
        // back: boats and what they know
        river(1, 1);
        x.boat(0, 10, 100, 30);
        x.boat(1, 11, 100, 30);
        x.leave(1, true);
        x.go(7);
        x.leave(0, true);
        x.go(2);
        x.image();
        x.go(2);
        x.yard(1, 5);
        x.wood(0, 2);
        x.gauge(0, 9);
        x.off(1);
        x.leave(0, false);
        x.leave(1, false);
        due(x.knows(0, 0, 0), 19);
        done(x.back(), 9);
        due(x.boatTold(0, 0), 1);
        due(x.boatTold(0, 2), 11);
        due(x.boatTold(0, 5), 26);
        due(x.knows(0, 0, 0), 10);
        due(x.knows(0, 0, 1), 7);
        due(x.boatTold(1, 0), 3);
        due(x.boatTold(1, 1), 1);
        due(x.boatTold(1, 5), 30);
        due(x.knows(1, 1, 1), 0);
        due(x.knows(1, 0, 1), NO);
        due(x.box(1, 1, 1), NO);
        x.shift(1, 0, -1);
        done(x.off(1), 1);
        x.go(2);
        due(x.boatTold(0, 1), 1);
        // back: where a boat aground came from
        river(1, 1);
        x.boat(1, 11, 100, 30);
        x.leave(0, true);
        x.image();
        x.shift(0, 0, -5);
        x.shift(1, 0, -5);
        done(x.off(0), 1);
        x.leave(0, false);
        x.go(4);
        due(x.boatTold(0, 1), 0);
        x.shift(0, 0, 0);
        done(x.leave(0, true), 0);
        due(x.boatTold(0, 1), 0);
        x.back();
        due(x.boatTold(0, 1), 1);
        x.shift(1, 0, -5);
        done(x.off(0), 1);
        // back, refused before an image
        fresh();
        for (int i = 0; i < 12; i++) no(3, x.back());
        x.image();
        for (int i = 0; i < 10; i++) done(x.back(), 0);
        no(2, x.back());
    }

    static void promise21() {
        says("## Promise 21: height");
        fresh();
        due(x.height(-1), NO);
        due(x.height(100), NO);
        due(x.height(50), 0);
        x.gauge(50, -7);
        due(x.height(0), -7);
        due(x.height(99), -7);
        x.gauge(53, 0);
        due(x.height(51), -5);
        due(x.height(52), -3);
        x.gauge(56, -7);
        due(x.height(54), -2);
        due(x.height(55), -4);
        due(x.height(57), -7);
        x.gauge(52, 40);
        due(x.height(51), 16);
        due(x.height(53), 0);
        due(x.height(49), -7);
        x.gauge(0, -20);
        x.gauge(99, 40);
        due(x.height(1), -20);
        due(x.height(4), -19);
        due(x.height(98), 38);
        no(1, x.gauge(100, 0));
        due(x.height(5), -19);
        due(x.status(), 1);
    }

    static void promise22() {
        says("## Promise 22: stretchTold");
        fresh();
        x.stretch(2, 7, 13);
        x.stretch(3, 5, 8);
        x.stretch(4, 6, 8);
        x.stretch(2, 8, 13);
        x.stretch(1, 3, 8);
        due(x.stretchTold(-1, 0), NO);
        due(x.stretchTold(5, 0), NO);
        due(x.stretchTold(0, -1), NO);
        due(x.stretchTold(0, 6), NO);
        due(x.stretchTold(0, 0), 2);
        due(x.stretchTold(0, 1), 7);
        due(x.stretchTold(0, 2), 13);
        due(x.stretchTold(1, 3), 0);
        due(x.stretchTold(0, 4), 0);
        due(x.stretchTold(0, 5), 7);
        due(x.stretchTold(1, 5), 13);
        due(x.stretchTold(2, 5), 10);
        x.light(1, true);
        due(x.stretchTold(1, 3), 1);
        due(x.stretchTold(1, 5), 5);
        x.light(1, false);
        x.go(23);
        due(x.stretchTold(1, 5), 13);
        x.go(1);
        due(x.stretchTold(1, 5), 5);
        x.go(47);
        due(x.stretchTold(1, 5), 5);
        x.go(1);
        due(x.stretchTold(1, 5), 13);
        x.gauge(0, 19);
        x.gauge(1, 20);
        due(x.stretchTold(0, 5), 7);
        x.shift(4, 1, 6);
        due(x.stretchTold(4, 4), 0);
        x.go(24);
        due(x.stretchTold(0, 5), 4);
        due(x.stretchTold(3, 5), 4);
        due(x.stretchTold(2, 5), 10);
        due(x.stretchTold(4, 4), 6);
        due(x.stretchTold(4, 5), 3);
        due(x.stretchTold(1, 5), 13);
    }

    static void promise23() {
        says("## Promise 23: water");
        river(0, 1, 2, 3, 4, 5);
        x.gauge(0, -20);
        x.cold(1, true);
        x.shift(1, 0, 3);
        x.shift(3, 0, -3);
        int[] waters = {-10, -13, -10, -7, 10, -10};
        for (int k = 0; k < 6; k++) due(x.water(k, 0), waters[k]);
        due(x.water(5, 1), 0);
        due(x.water(0, 1), -10);
        due(x.water(4, 99), 10);
        due(x.water(-1, 0), NO);
        due(x.water(6, 0), NO);
        due(x.water(0, -1), NO);
        due(x.water(0, 100), NO);
    }

    static void promise24() {
        says("## Promise 24: boatTold");
        river(0, 1);
        x.boat(0, 4, 300, 9);
        x.bale(0, 1, 37, 1);
        x.lade(0, 0);
        due(x.boatTold(-1, 0), -1);
        due(x.boatTold(1, 0), -1);
        due(x.boatTold(0, -1), -1);
        due(x.boatTold(0, 6), -1);
        due(x.boatTold(0, 3), 37);
        due(x.boatTold(0, 4), 7);
        x.leave(0, true);
        due(x.boatTold(0, 2), 4);
        due(x.boatTold(0, 5), 5);
        x.go(4);
        due(x.boatTold(0, 2), 0);
        due(x.boatTold(0, 0), 0);
        x.leave(0, false);
        due(x.boatTold(0, 0), 2);
        due(x.boatTold(0, 1), 0);
        due(x.boatTold(0, 2), 8);
        x.boat(1, 20, 1, 9);
        x.leave(1, true);
        due(x.boatTold(1, 0), 3);
        due(x.boatTold(1, 1), 1);
        due(x.boatTold(1, 2), 0);
    }

    static void promise25() {
        says("## Promise 25: baleTold");
        river(0, 0);
        x.boat(0, 4, 300, 9);
        x.boat(0, 4, 300, 9);
        x.bale(0, 1, 37, 12);
        due(x.baleTold(-1, 0), -1);
        due(x.baleTold(1, 0), -1);
        due(x.baleTold(0, -1), -1);
        due(x.baleTold(0, 5), -1);
        due(x.baleTold(0, 0), 0);
        due(x.baleTold(0, 1), 0);
        due(x.baleTold(0, 2), 1);
        due(x.baleTold(0, 3), 37);
        due(x.baleTold(0, 4), 12);
        x.lade(0, 1);
        due(x.baleTold(0, 0), 1);
        due(x.baleTold(0, 1), 1);
        x.leave(1, true);
        x.go(4);
        x.land(0);
        due(x.baleTold(0, 0), 2);
        due(x.baleTold(0, 1), 1);
        due(x.status(), 0);
    }

    static void promise26() {
        says("## Promise 26: why");
        river(1, 3);
        x.boat(0, 10, 300, 4);
        due(x.why(-1, true), -1);
        due(x.why(1, true), -1);
        due(x.why(0, false), 2);
        due(x.why(0, true), 0);
        x.shift(0, 0, 1);
        due(x.why(0, true), 0);
        done(x.leave(0, true), 0);
        due(x.why(0, true), 1);
        due(x.why(0, false), 1);
        x.shift(0, 0, 0);
        x.off(0);
        due(x.why(0, true), 3);
        due(x.status(), 0);
        x.bale(0, 1, 9, 1);
        x.boat(0, 9, 300, 3);
        due(x.why(1, true), 4);
        x.boat(1, 9, 300, 11);
        due(x.why(2, true), 4);
        x.go(24);
        due(x.why(2, true), 0);
        x.boat(2, 9, 300, 1);
        due(x.why(3, true), 2);
        due(x.why(3, false), 4);
        // why, the word against the draught
        river(0);
        x.boat(0, 9, 300, 50);
        x.bale(0, 1, 20, 1);
        x.leave(0, true);
        x.go(4);
        x.leave(0, false);
        x.go(4);
        due(x.why(0, true), 0);
        x.lade(0, 0);
        x.gauge(0, 20);
        due(x.why(0, true), 3);
        no(23, x.leave(0, true));
    }

    static void promise27and28() {
        says("## Promise 27: knows");
        says("## Promise 28: box");
        river(0, 0);
        x.boat(0, 9, 300, 50);
        x.gauge(0, -1);
        x.go(5);
        x.leave(0, true);
        due(x.knows(0, 0, 0), 9);
        due(x.knows(0, 0, 1), 5);
        due(x.knows(0, 0, 2), NO);
        due(x.knows(0, 0, -1), NO);
        due(x.knows(0, 1, 0), NO);
        due(x.knows(-1, 0, 0), NO);
        due(x.knows(1, 0, 0), NO);
        due(x.knows(0, -1, 0), NO);
        due(x.knows(0, 2, 0), NO);
        due(x.box(0, 0, 0), NO);
        due(x.box(1, 0, 0), NO);
        x.go(4);
        due(x.box(1, 0, 0), 9);
        due(x.box(1, 0, 1), 5);
        due(x.box(1, 0, 2), NO);
        due(x.box(1, 0, -1), NO);
        due(x.box(0, 0, 0), NO);
        due(x.box(1, 1, 0), NO);
        due(x.box(-1, 0, 0), NO);
        due(x.box(3, 0, 0), NO);
        due(x.box(1, -1, 0), NO);
        due(x.box(1, 2, 0), NO);
        x.gauge(0, -2);
        x.leave(0, false);
        due(x.knows(0, 0, 0), 8);
        due(x.knows(0, 0, 1), 9);
    }

    static void promise29() {
        says("## Promise 29: lading");
        river(0, 0);
        x.boat(0, 5, 60, 50);
        due(x.lading(0, 4), -1);
        due(x.lading(0, 5), 0);
        due(x.lading(0, LEAST), -1);
        due(x.lading(-1, 9), -1);
        due(x.lading(1, 9), -1);
        x.bale(0, 1, 10, 4);
        x.bale(1, 2, 1, 900);
        x.bale(0, 1, 20, 7);
        x.bale(0, 1, 9, 4);
        x.bale(0, 1, 30, 11);
        x.bale(0, 2, 5, 0);
        due(x.lading(0, 5), 8);
        due(x.lading(0, 6), 9);
        due(x.lading(0, 7), 4 + 8);
        due(x.lading(0, 8), 1 + 4 + 8);
        due(x.lading(0, MOST), 4 + 8 + 16);
        x.bale(0, 2, 9, 4);
        due(x.lading(0, 5), 8);
        x.bale(0, 2, 39, 15);
        due(x.lading(0, 8), 4 + 8 + 64);
        due(x.lading(0, 9), 1 + 4 + 8 + 64);
        due(x.lading(0, 10), 8 + 64 + 128);
        x.lade(4, 0);
        due(x.lading(0, 7), -1);
        due(x.lading(0, 8), 8);
        due(x.lading(0, 99), 1 + 8 + 64);
        due(x.baleTold(3, 0), 0);
        x.leave(0, true);
        due(x.lading(0, 99), -1);
        x.go(4);
        due(x.lading(0, 99), 2);
        // lading, like rates and weights: the least bits
        river(0);
        x.boat(0, 1, 20, 5);
        x.bale(0, 1, 10, 5);
        x.bale(0, 1, 10, 5);
        x.bale(0, 1, 20, 10);
        x.bale(0, 1, 10, 5);
        due(x.lading(0, 50), 3);
        x.lade(0, 0);
        due(x.lading(0, 50), 2);
        // lading, all twelve
        river(0);
        x.boat(0, 1, 999, 5);
        for (int i = 0; i < 12; i++) x.bale(0, 1, 80 + i, 1 + i);
        due(x.lading(0, 500), 4095 - 1);
        due(x.lading(0, 10), 1 << 11);
    }

    static void promise30and31() {
        says("## Promise 30: wooding");
        says("## Promise 31: bought");
        fresh();
        for (int i = 0; i < 4; i++) x.stretch(0, 10, 9);
        x.boat(2, 5, 50, 25);
        x.yard(0, 2);
        x.yard(1, 3);
        x.yard(2, 1);
        x.yard(3, 2);
        due(x.wooding(0, 0, 4), 60);
        int[] buys = {20, 0, 20, 0};
        for (int i = 0; i < 4; i++) due(x.bought(0, 0, 4, i), buys[i]);
        due(x.bought(0, 0, 4, 4), -1);
        due(x.bought(0, 0, 4, -1), -1);
        due(x.bought(0, 0, 4, MOST), -1);
        due(x.wooding(0, 4, 0), -1);
        due(x.bought(0, 4, 0, 0), -1);
        due(x.wooding(0, 3, 0), 40);
        int[] back = {10, 20, 0};
        for (int i = 0; i < 3; i++) due(x.bought(0, 3, 0, i), back[i]);
        due(x.wooding(0, 1, 1), 0);
        due(x.bought(0, 1, 1, 0), -1);
        due(x.wooding(-1, 0, 1), -1);
        due(x.wooding(1, 1, 1), -1);
        due(x.wooding(0, -1, 1), -1);
        due(x.wooding(0, 0, 5), -1);
        due(x.wooding(0, 5, 5), -1);
        due(x.bought(1, 0, 1, 0), -1);
        due(x.bought(0, 5, 0, 0), -1);
        // bought, of like ones the one that buys less first
        fresh();
        for (int i = 0; i < 3; i++) x.stretch(0, 10, 9);
        x.boat(0, 5, 50, 30);
        for (int i = 0; i < 3; i++) x.yard(i, 4);
        due(x.wooding(0, 0, 3), 120);
        for (int i = 0; i < 3; i++) due(x.bought(0, 0, 3, i), 10);
        x.yard(1, 0);
        due(x.wooding(0, 0, 3), 120);
        due(x.bought(0, 0, 3, 0), 20);
        due(x.bought(0, 0, 3, 1), 0);
        due(x.bought(0, 0, 3, 2), 10);
        x.yard(0, 0);
        due(x.wooding(0, 0, 3), -1);
        // wooding, how long: by daylight, today, within the tank
        fresh();
        x.stretch(3, 5, 9);
        x.stretch(4, 6, 9);
        x.stretch(2, 7, 9);
        x.boat(0, 5, 50, 10);
        x.boat(0, 5, 50, 9);
        for (int i = 0; i < 4; i++) x.yard(i, 1);
        due(x.count(8), 1);
        due(x.wooding(0, 0, 1), 5);
        due(x.wooding(0, 1, 2), 10);
        due(x.wooding(1, 1, 2), -1);
        due(x.wooding(0, 0, 3), 22);
        x.gauge(0, 20);
        due(x.wooding(0, 0, 3), 19);
        due(x.bought(0, 0, 3, 2), 4);
        due(x.wooding(0, 3, 2), 4);
        due(x.boatTold(0, 5), 10);
        x.leave(0, true);
        due(x.wooding(0, 3, 2), 4);
    }

    static void promise32() {
        says("## Promise 32: lights");
        fresh();
        for (int kind : new int[] {3, 0, 3, 1, 3, 3}) x.stretch(kind, 2, 9);
        due(x.lights(), 0);
        x.trip(0, 6, 4);
        due(x.lights(), 0);
        x.trip(6, 0, 3);
        due(x.lights(), 1);
        x.trip(2, 6, 2);
        due(x.lights(), 4);
        x.trip(1, 3, 0);
        x.trip(5, 4, 0);
        due(x.lights(), 4 + 16);
        x.light(4, true);
        due(x.lights(), 4);
        x.light(2, true);
        due(x.lights(), 0);
        x.trip(0, 6, 0);
        due(x.lights(), 1 + 32);
        // lights, one for two trips
        fresh();
        for (int i = 0; i < 10; i++) x.stretch(3, 2, 9);
        x.trip(0, 4, 3);
        x.trip(3, 8, 4);
        due(x.lights(), 8);
        x.trip(0, 10, 0);
        due(x.lights(), 1023);
    }

    static void promise33() {
        says("## Promise 33: gives");
        river(0, 1, 2, 3, 4, 5);
        x.boat(0, 5, 500, 40);
        x.boat(6, 7, 500, 40);
        due(x.gives(0, 1, 0, true, false), -1);
        x.rule(3, 2, 9);
        x.rule(1, 1, 101);
        x.rule(0, 0, 9);
        due(x.gives(0, 0, 0, true, false), -1);
        due(x.gives(-1, 1, 0, true, false), -1);
        due(x.gives(0, 2, 0, true, false), -1);
        due(x.gives(2, 0, 0, true, false), -1);
        due(x.gives(0, 1, -1, true, false), -1);
        due(x.gives(0, 1, 6, true, false), -1);
        due(x.gives(0, 1, 0, true, false), 0);
        due(x.gives(0, 1, 0, false, true), 1);
        due(x.gives(1, 0, 0, true, false), 1);
        due(x.gives(0, 1, 0, true, true), -1);
        due(x.gives(0, 1, 0, false, false), -1);
        due(x.gives(0, 1, 1, false, true), 1);
        due(x.gives(0, 1, 3, true, false), 1);
        due(x.gives(1, 0, 3, true, true), 1);
        for (int k : new int[] {2, 4, 5}) due(x.gives(0, 1, k, true, false), 0);
        go(96);
        due(x.gives(0, 1, 1, false, true), 0);
        due(x.gives(1, 0, 1, false, false), 0);
        due(x.gives(0, 1, 2, false, true), 1);
        x.bale(0, 1, 20, 1);
        x.lade(0, 0);
        due(x.gives(0, 1, 1, false, true), 1);
        due(x.gives(0, 1, 1, true, true), -1);
        x.bale(0, 1, 10, 1);
        x.lade(1, 0);
        due(x.gives(0, 1, 1, true, false), 1);
        go(96);
        due(x.gives(1, 0, 1, true, true), -1);
        go(96 * 7);
        due(x.gives(0, 1, 3, true, true), 1);
        due(x.gives(0, 1, 0, true, false), 0);
        go(96);
        due(x.gives(0, 1, 3, true, false), -1);
        due(x.gives(0, 1, 0, true, false), -1);
    }

    static void promise34() {
        says("## Promise 34: count");
        river(0, 1);
        x.boat(0, 20, 99, 40);
        x.boat(0, 3, 99, 40);
        x.bale(0, 1, 1, 100);
        x.bale(0, 1, 1, 50);
        x.bale(0, 2, 1, 7);
        x.trip(0, 1, 1);
        x.rule(0, 0, 1);
        x.act(0, 3, 5);
        x.leave(0, true);
        for (int i = 0; i < 3; i++) x.lade(i, 1);
        x.leave(1, true);
        x.go(4);
        for (int i = 0; i < 3; i++) x.land(i);
        int[] counts = {2, 2, 3, 1, 1, 4, 150, 1, 1, 4};
        for (int i = 0; i < counts.length; i++) due(x.count(i), counts[i]);
        due(x.count(-1), -1);
        due(x.count(10), -1);
        x.go(19);
        due(x.count(8), 1);
        x.go(1);
        due(x.count(8), 0);
        x.go(47);
        due(x.count(8), 0);
        x.go(1);
        due(x.count(8), 1);
        x.go(24);
        due(x.count(8), 1);
        x.go(24);
        due(x.count(8), 0);
    }

    private static void acts(int k, int act, int v, int answer, int... bodies) {
        done(x.act(k, act, v), answer);
        due(x.count(9), bodies.length);
        for (int i = 0; i < bodies.length; i++) due(x.trace(i), bodies[i]);
        due(x.trace(bodies.length), -1);
    }

    static void promise35and36() {
        says("## Promise 35: act");
        says("## Promise 36: trace");
        fresh();
        x.stretch(0, 3, 7);
        x.stretch(1, 4, 8);
        x.stretch(2, 5, 9);
        x.stretch(3, 6, 10);
        x.stretch(4, 7, 11);
        x.stretch(5, 8, 12);
        acts(0, 0, 5, 12, 10);
        acts(0, 1, 5, 24, 11, 10);
        acts(0, 2, 5, 5, 12);
        acts(0, 3, 5, 24 ^ 5, 13, 11, 10, 12);
        acts(1, 0, 5, 9, 20, 10);
        acts(1, 1, 5, 18, 11, 20, 10);
        acts(1, 2, 5, 4, 12);
        acts(1, 3, 5, 20 ^ 5, 21, 13, 11, 20, 10, 12);
        acts(2, 0, 5, 14, 10);
        acts(2, 1, 5, 28 + 3, 30, 11, 10, 12);
        acts(2, 2, 5, 3, 12);
        acts(2, 3, 5, 31 ^ 3, 13, 30, 11, 10, 12, 12);
        acts(3, 0, 5, 12, 41, 20, 10);
        acts(3, 1, 5, 24, 11, 41, 20, 10);
        acts(3, 2, 5, 6, 40, 12);
        acts(3, 3, 5, 26 ^ 9, 21, 13, 11, 41, 20, 10, 40, 12);
        acts(4, 0, 5, 16, 10);
        acts(4, 1, 5, 32 ^ 11, 50, 11, 10);
        acts(4, 2, 5, 8, 51, 12);
        acts(4, 3, 5, 32 ^ 11 ^ 8, 13, 50, 11, 10, 51, 12);
        acts(5, 0, 5, 17, 10);
        acts(5, 1, 5, 34, 11, 10);
        acts(5, 2, 5, 0, 12);
        acts(5, 3, 5, -(34 ^ 0), 60, 12, 13, 11, 10, 12);
        acts(0, 1, MOST, (MOST + 7) * 2, 11, 10);
        acts(3, 2, LEAST, (LEAST - 3) * 3, 40, 12);
        no(1, x.act(-1, 0, 1));
        no(1, x.act(6, 0, 1));
        no(1, x.act(0, -1, 1));
        no(1, x.act(0, 4, 1));
        due(x.count(9), 2);
        due(x.trace(0), 40);
        due(x.trace(-1), -1);
        due(x.trace(2), -1);
        due(x.trace(50), -1);
        due(x.trace(MOST), -1);
    }

    static void promise37() {
        says("## Promise 37: sheet");
        fresh();
        no(1, x.sheet(-1, 0, 1));
        no(1, x.sheet(4, 0, 1));
        no(1, x.sheet(0, -2, 1));
        no(1, x.sheet(0, 3, 1));
        no(1, x.sheet(0, 0, -1));
        no(1, x.sheet(0, 0, 41));
        no(10, x.cell(0, 0, 0));
        done(x.sheet(0, 1, 40), 1);
        due(x.forge(2, 39, 0), 0);
        no(12, x.forge(2, 40, 0));
        x.cell(0, 2, 9);
        no(1, x.sheet(0, 1, 41));
        due(x.forge(2, 2, 0), 9);
        done(x.sheet(0, 1, 3), 1);
        due(x.forge(2, 2, 0), 0);
        no(12, x.forge(2, 3, 0));
        done(x.sheet(3, 0, 0), 1);
        no(12, x.cell(3, 0, 0));
        done(x.sheet(0, -1, 99), 1);
        no(10, x.cell(0, 0, 0));
        no(1, x.sheet(4, -1, 99));
        done(x.sheet(0, -1, LEAST), 1);
        x.sheet(1, 2, 2);
        x.none(1, 0);
        x.sheet(1, 2, 2);
        due(x.gauges(0, 1, 0, 2), 2);
    }

    static void promise38() {
        says("## Promise 38: cell");
        fresh();
        x.sheet(0, 0, 3);
        x.sheet(1, 1, 3);
        x.sheet(2, 2, 3);
        no(1, x.cell(-1, 0, 0));
        no(1, x.cell(4, 0, 0));
        no(1, x.cell(1, 0, 1001));
        no(1, x.cell(1, 0, -1001));
        no(1, x.cell(3, 9, -1001));
        no(10, x.cell(3, 0, 0));
        no(10, x.cell(3, 9, 0));
        no(12, x.cell(1, 3, 0));
        no(12, x.cell(1, -1, 0));
        no(12, x.cell(1, MOST, 0));
        done(x.cell(1, 0, 1000), 1);
        done(x.cell(1, 2, -1000), 1);
        due(x.forge(2, 0, 1), 1000);
        due(x.forge(2, 1, 1), 0);
        due(x.forge(2, 2, 1), -1000);
        int[] given = {127, 128, 255, 256, -128, -129, 1000, -1000};
        int[] kept = {127, -128, -1, 0, -128, 127, -24, 24};
        for (int i = 0; i < given.length; i++) {
            done(x.cell(0, 1, given[i]), 1);
            done(x.forge(3, 1, 0), kept[i]);
        }
        done(x.cell(2, 0, 9), 1);
        done(x.cell(2, 1, -9), 1);
        done(x.cell(2, 2, 1), 1);
        due(x.gauges(0, 2, 0, 3), 3);
        due(x.height(0), 4);
        due(x.height(1), -4);
        due(x.height(2), 0);
        done(x.none(2, 0), 1);
        done(x.cell(2, 0, 20), 1);
        x.gauges(0, 2, 0, 1);
        due(x.height(0), 10);
    }

    static void promise39() {
        says("## Promise 39: none");
        fresh();
        x.sheet(0, 0, 3);
        x.sheet(1, 1, 3);
        x.sheet(2, 2, 3);
        no(1, x.none(-1, 0));
        no(1, x.none(4, 9));
        no(10, x.none(3, 0));
        no(10, x.none(3, 9));
        no(11, x.none(0, 0));
        no(11, x.none(1, 9));
        no(12, x.none(2, 3));
        no(12, x.none(2, -1));
        done(x.none(2, 1), 1);
        due(x.gauges(0, 2, 0, 3), 2);
        due(x.gauge(1, 0), 3);
    }

    static void promise40() {
        says("## Promise 40: gauges");
        fresh();
        x.sheet(0, 2, 5);
        x.sheet(1, 1, 5);
        x.sheet(2, 2, 40);
        int[] halves = {-42, -41, 81, 82, 7};
        for (int i = 0; i < 5; i++) x.cell(0, i, halves[i]);
        x.gauge(5, 1);
        x.gauge(8, 2);
        done(x.gauges(5, 0, 0, 5), 5);
        due(x.height(5), 1);
        due(x.height(6), -20);
        due(x.height(7), 40);
        due(x.height(8), 2);
        due(x.height(9), 3);
        done(x.gauges(5, 0, 1, 1), 5);
        due(x.height(5), -20);
        done(x.gauges(99, 0, 9, 0), 5);
        done(x.gauges(99, 0, 4, 1), 6);
        due(x.height(99), 3);
        no(1, x.gauges(99, 0, 4, 2));
        no(1, x.gauges(-1, 0, 0, 1));
        no(1, x.gauges(100, 0, 0, 0));
        no(1, x.gauges(0, -1, 0, 1));
        no(1, x.gauges(0, 4, 0, 1));
        no(1, x.gauges(0, 0, 0, -1));
        no(1, x.gauges(0, 0, 0, 41));
        no(1, x.gauges(0, 3, 9, 41));
        no(1, x.gauges(96, 3, 0, 5));
        no(10, x.gauges(0, 3, 0, 1));
        no(10, x.gauges(0, 3, -1, 0));
        no(11, x.gauges(0, 1, 0, 1));
        no(11, x.gauges(0, 1, 9, 0));
        no(12, x.gauges(0, 0, -1, 3));
        no(12, x.gauges(0, 0, MOST, 3));
        no(12, x.gauges(0, 0, LEAST, 3));
        no(12, x.gauges(0, 0, 5, 1));
        due(x.gauge(5, -20), 6);
        no(12, x.gauges(20, 0, 4, 3));
        due(x.height(20), 3);
        due(x.gauge(5, -20), 7);
        done(x.gauges(60, 2, 0, 40), 46);
        x.sheet(3, 2, 40);
        for (int i = 0; i < 40; i++) x.none(3, i);
        done(x.gauges(20, 3, 0, 40), 46);
        due(x.height(20), 3);
        x.cell(3, 0, 1000);
        x.cell(3, 1, -1000);
        done(x.gauges(30, 3, 0, 2), 46);
    }

    static void promise41() {
        says("## Promise 41: forge");
        river(0, 1, 2, 3, 4, 5);
        no(1, x.forge(-1, 0, 0));
        no(1, x.forge(7, 0, 0));
        for (int what = 0; what <= 6; what++) {
            no(1, x.forge(what, -101, 0));
            no(1, x.forge(what, 101, 0));
            no(1, x.forge(what, 1, -101));
            no(1, x.forge(what, 1, 101));
        }
        boolean[][] under = new boolean[6][6];
        for (int i = 0; i < 6; i++) under[i][i] = under[i][0] = true;
        under[3][1] = true;
        for (int n = 0; n < 6; n++) {
            for (int k = 0; k < 6; k++) {
                if (under[k][n]) done(x.forge(0, n, k), k);
                else no(11, x.forge(0, n, k));
            }
        }
        no(10, x.forge(0, 0, 6));
        no(10, x.forge(0, 1, 9));
        no(10, x.forge(0, 0, -1));
        done(x.forge(0, -5, -7), 3);
        done(x.forge(0, 7, 13), 3);
        no(11, x.forge(0, -4, -7));
        done(x.forge(0, -100, -98), 2);
        done(x.forge(1, 100, 100), 100);
        done(x.forge(1, 99, -100), 99);
        done(x.forge(1, 0, 0), 0);
        no(13, x.forge(1, -1, 0));
        no(10, x.forge(2, 99, 0));
        no(10, x.forge(3, -5, 0));
        x.sheet(0, 1, 4);
        x.cell(0, 3, -700);
        x.cell(0, 0, -1);
        done(x.forge(2, 3, 8), -700);
        done(x.forge(2, 0, -4), -1);
        no(12, x.forge(2, 4, 0));
        no(12, x.forge(2, -1, 0));
        no(11, x.forge(3, 1, 0));
        no(11, x.forge(3, -1, 0));
        x.sheet(1, 0, 6);
        int[] bytes = {50, 1, 2, 4, 8, 16};
        for (int i = 0; i < 6; i++) x.cell(1, i, bytes[i]);
        no(11, x.forge(2, 99, 1));
        done(x.forge(3, 0, 1), 0);
        done(x.forge(3, 1, 1), 1);
        done(x.forge(3, 2, -3), 3);
        done(x.forge(3, 3, 5), 7);
        no(12, x.forge(3, 4, 1));
        no(12, x.forge(3, -1, 1));
        no(12, x.forge(3, 100, 1));
        x.sheet(1, 0, 3);
        done(x.forge(3, 2, 1), 0);
        no(12, x.forge(3, 3, 1));
        x.sheet(1, 0, 1);
        done(x.forge(3, 0, 1), 0);
        no(12, x.forge(3, 1, 1));
        x.sheet(1, 0, 0);
        no(12, x.forge(3, 0, 1));
        x.sheet(2, 2, 6);
        no(11, x.forge(2, 0, 2));
        no(11, x.forge(3, 0, 2));
        int[] fits = {-1, 1, -1, 3, -1, -1, 0, 0, 0, 0};
        for (int k = 0; k < 10; k++) {
            if (fits[k] < 0) no(14, x.forge(4, 5, k));
            else done(x.forge(4, 5, k), fits[k]);
            if (fits[k] < 0) no(14, x.forge(4, 5, k - 100));
        }
        done(x.forge(4, 0, -7), 3);
        no(15, x.forge(5, 0, 0));
        done(x.forge(5, 3, 0), 333);
        done(x.forge(5, -7, 0), -142);
        done(x.forge(5, 100, 0), 10);
        no(10, x.forge(6, 0, 0));
        no(10, x.forge(6, -2, 0));
        done(x.forge(6, 1, 0), 1);
        done(x.forge(6, -1, 0), 1);
        done(x.forge(6, 99, 0), 1);
        due(x.count(0), 6);
    }

    static void promise42() {
        says("## Promise 42: status");
        fresh();
        due(x.status(), 0);
        no(1, x.go(0));
        due(x.status(), 1);
        x.height(0);
        x.height(-1);
        x.stretchTold(9, 9);
        x.water(9, 9);
        x.boatTold(9, 9);
        x.baleTold(9, 9);
        x.why(9, true);
        x.knows(9, 9, 9);
        x.box(9, 9, 9);
        x.lading(9, 9);
        x.wooding(9, 9, 9);
        x.bought(9, 9, 9, 9);
        x.lights();
        x.gives(9, 8, 9, true, false);
        x.count(99);
        x.trace(0);
        due(x.status(), 1);
        done(x.stretch(3, 1, 1), 0);
        done(x.boat(0, 1, 1, 99), 0);
        no(22, x.leave(0, false));
        x.lading(0, 9);
        x.why(0, true);
        due(x.status(), 22);
        done(x.image(), 1);
    }

    public static void main(String[] args) throws Exception {
        runAll(PromisesTest.class);
        end();
    }
}
