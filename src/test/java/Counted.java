/** A RiverSteamers that counts its calls, since the document promises nothing of an object after its 512th. */
final class Counted {
    private static final int MOST_CALLS = 512;
    private final RiverSteamers it = new RiverSteamers();
    private int calls = 0;

    private RiverSteamers next() {
        calls++;
        if (calls > MOST_CALLS) throw new IllegalStateException("a test makes more than 512 calls of one object");
        return it;
    }

    int stretch(int kind, int length, int depth) { return next().stretch(kind, length, depth); }
    int gauge(int day, int height) { return next().gauge(day, height); }
    int shift(int stretch, int day, int n) { return next().shift(stretch, day, n); }
    int cold(int day, boolean is) { return next().cold(day, is); }
    int light(int stretch, boolean is) { return next().light(stretch, is); }
    int boat(int landing, int hull, int room, int tank) { return next().boat(landing, hull, room, tank); }
    int bale(int from, int to, int weight, int rate) { return next().bale(from, to, weight, rate); }
    int lade(int bale, int boat) { return next().lade(bale, boat); }
    int land(int bale) { return next().land(bale); }
    int lose(int bale) { return next().lose(bale); }
    int leave(int boat, boolean down) { return next().leave(boat, down); }
    int off(int boat) { return next().off(boat); }
    int go(int n) { return next().go(n); }
    int yard(int landing, int price) { return next().yard(landing, price); }
    int wood(int boat, int n) { return next().wood(boat, n); }
    int trip(int from, int to, int waits) { return next().trip(from, to, waits); }
    int rule(int kind, int how, int days) { return next().rule(kind, how, days); }
    int image() { return next().image(); }
    int back() { return next().back(); }
    int height(int day) { return next().height(day); }
    int stretchTold(int stretch, int what) { return next().stretchTold(stretch, what); }
    int water(int stretch, int day) { return next().water(stretch, day); }
    int boatTold(int boat, int what) { return next().boatTold(boat, what); }
    int baleTold(int bale, int what) { return next().baleTold(bale, what); }
    int why(int boat, boolean down) { return next().why(boat, down); }
    int knows(int boat, int stretch, int what) { return next().knows(boat, stretch, what); }
    int box(int landing, int stretch, int what) { return next().box(landing, stretch, what); }
    int lading(int boat, int water) { return next().lading(boat, water); }
    int wooding(int boat, int from, int to) { return next().wooding(boat, from, to); }
    int bought(int boat, int from, int to, int i) { return next().bought(boat, from, to, i); }
    int lights() { return next().lights(); }
    int gives(int a, int b, int stretch, boolean aUp, boolean bUp) { return next().gives(a, b, stretch, aUp, bUp); }
    int count(int what) { return next().count(what); }
    int act(int stretch, int act, int x) { return next().act(stretch, act, x); }
    int trace(int i) { return next().trace(i); }
    int sheet(int sheet, int sort, int n) { return next().sheet(sheet, sort, n); }
    int cell(int sheet, int i, int v) { return next().cell(sheet, i, v); }
    int none(int sheet, int i) { return next().none(sheet, i); }
    int gauges(int day, int sheet, int i, int n) { return next().gauges(day, sheet, i, n); }
    int forge(int what, int n, int k) { return next().forge(what, n, k); }
    int status() { return next().status(); }
}
