import java.util.Arrays;

/** River steamers on a row of stretches: what each method does is told in ../shared/DOC.md. */
public final class RiverSteamers {
    public static final int NONE = -1;
    public static final int NO = -1000;

    private static final int MOST_STRETCHES = 10;
    private static final int MOST_LANDINGS = 11;
    private static final int MOST_BOATS = 5;
    private static final int MOST_BALES = 12;
    private static final int MOST_TRIPS = 6;
    private static final int MOST_RULES = 8;
    private static final int MOST_BACKS = 10;
    private static final int MOST_BODIES = 50;
    private static final int MOST_CORDS = 99;

    private static final int DAYS = 100;
    private static final int QUARTERS_OF_DAY = 96;
    private static final int LAST_QUARTER = 9599;
    private static final int LOWEST_HEIGHT = -20;
    private static final int HIGHEST_HEIGHT = 40;

    private static final int KINDS = 6;
    private static final int BAR = 1;
    private static final int BEND = 2;
    private static final int CROSSING = 3;
    private static final int LOCK = 4;
    private static final int ICE = 5;
    private static final int[] KIND_ABOVE = {-1, 0, 0, 1, 0, 0};

    private static final int AT_LANDING = 0;
    private static final int UNDER_WAY_DOWN = 1;
    private static final int UNDER_WAY_UP = 2;
    private static final int AGROUND = 3;
    private static final int ABOARD = 1;
    private static final int PAID = 2;
    private static final int LOST = 3;

    private static final int SHEETS = 4;
    private static final int MOST_NUMBERS = 40;
    private static final int BYTES = 0;
    private static final int SHORTS = 1;
    private static final int FLOATS = 2;

    private static final int DONE = 0;
    private static final int WRONG_NUMBER = 1;
    private static final int NO_ROOM = 2;
    private static final int NOT_SO = 3;
    private static final int NOTHING_THERE = 10;
    private static final int OTHER_SORT = 11;
    private static final int PLACE_OUTSIDE = 12;
    private static final int SIZE_BELOW_ZERO = 13;
    private static final int DOES_NOT_FIT = 14;
    private static final int DIVIDED_BY_ZERO = 15;
    private static final int CANNOT_LEAVE = 20;

    private final River river = new River();
    // Made by the first image() only, since most objects never need it.
    private River kept = null;
    private int timesBack = 0;
    private int latestStatus = DONE;
    private final Sheet[] sheets = new Sheet[SHEETS];
    private final Acts acts = new Acts();
    private final Wooding woodPlan = new Wooding();
    private final int[] choice = new int[MOST_BALES];

    public RiverSteamers() {
        for (int i = 0; i < SHEETS; i++) {
            sheets[i] = new Sheet();
        }
    }

    // ---- what is told and done ----

    public int stretch(int kind, int length, int depth) {
        if (!isWithin(kind, 0, KINDS - 1) || !isWithin(length, 1, 20) || !isWithin(depth, 0, 99)) {
            return refused(WRONG_NUMBER);
        }
        if (river.stretchCount >= MOST_STRETCHES) {
            return refused(NO_ROOM);
        }
        int number = river.stretchCount++;
        river.stretches[number].begin(number, kind, length, depth);
        return done(number);
    }

    public int gauge(int day, int height) {
        if (!isDay(day) || !isWithin(height, LOWEST_HEIGHT, HIGHEST_HEIGHT)) {
            return refused(WRONG_NUMBER);
        }
        river.tellHeight(day, height);
        return done(river.daysTold);
    }

    public int shift(int stretch, int day, int n) {
        if (!river.isStretch(stretch) || !isDay(day) || !isWithin(n, -20, 20)) {
            return refused(WRONG_NUMBER);
        }
        Stretch it = river.stretches[stretch];
        if (!isUnder(it.kind, BAR)) {
            return refused(NOT_SO);
        }
        it.shifts[day] = n;
        return done(1);
    }

    public int cold(int day, boolean is) {
        if (!isDay(day)) {
            return refused(WRONG_NUMBER);
        }
        int changed = river.coldDays[day] == is ? 0 : 1;
        river.coldDays[day] = is;
        return done(changed);
    }

    public int light(int stretch, boolean is) {
        if (!river.isStretch(stretch)) {
            return refused(WRONG_NUMBER);
        }
        Stretch it = river.stretches[stretch];
        if (it.kind != CROSSING) {
            return refused(NOT_SO);
        }
        int changed = it.lit == is ? 0 : 1;
        it.lit = is;
        return done(changed);
    }

    public int boat(int landing, int hull, int room, int tank) {
        if (!river.isLanding(landing) || !isWithin(hull, 1, 30)
                || !isWithin(room, 1, 999) || !isWithin(tank, 1, MOST_CORDS)) {
            return refused(WRONG_NUMBER);
        }
        if (river.boatCount >= MOST_BOATS) {
            return refused(NO_ROOM);
        }
        int number = river.boatCount++;
        river.boats[number].begin(landing, hull, room, tank);
        return done(number);
    }

    public int bale(int from, int to, int weight, int rate) {
        if (!river.isWay(from, to) || !isWithin(weight, 1, 200) || !isWithin(rate, 0, 999)) {
            return refused(WRONG_NUMBER);
        }
        if (river.baleCount >= MOST_BALES) {
            return refused(NO_ROOM);
        }
        int number = river.baleCount++;
        river.bales[number].begin(from, to, weight, rate);
        return done(number);
    }

    public int lade(int bale, int boat) {
        if (!river.isBale(bale) || !river.isBoat(boat)) {
            return refused(WRONG_NUMBER);
        }
        Bale cargo = river.bales[bale];
        Boat carrier = river.boats[boat];
        boolean together = cargo.how == AT_LANDING && carrier.how == AT_LANDING && cargo.place == carrier.place;
        if (!together || carrier.load + cargo.weight > carrier.room) {
            return refused(NOT_SO);
        }
        cargo.how = ABOARD;
        cargo.place = boat;
        carrier.load += cargo.weight;
        return done(carrier.draught());
    }

    public int land(int bale) {
        if (!river.isBale(bale)) {
            return refused(WRONG_NUMBER);
        }
        Bale cargo = river.bales[bale];
        Boat carrier = river.carrierOf(cargo);
        if (carrier == null || carrier.how != AT_LANDING) {
            return refused(NOT_SO);
        }
        carrier.load -= cargo.weight;
        cargo.place = carrier.place;
        cargo.how = AT_LANDING;
        if (cargo.place == cargo.to) {
            cargo.how = PAID;
            river.paidRates += cargo.rate;
        }
        return done(cargo.place);
    }

    public int lose(int bale) {
        if (!river.isBale(bale)) {
            return refused(WRONG_NUMBER);
        }
        Bale cargo = river.bales[bale];
        Boat carrier = river.carrierOf(cargo);
        if (carrier == null) {
            return refused(NOT_SO);
        }
        carrier.load -= cargo.weight;
        cargo.how = LOST;
        cargo.place = NONE;
        return done(1);
    }

    public int leave(int boat, boolean down) {
        if (!river.isBoat(boat)) {
            return refused(WRONG_NUMBER);
        }
        Boat it = river.boats[boat];
        int reason = river.whyNot(it, down);
        if (reason != 0) {
            return refused(CANNOT_LEAVE + reason);
        }
        return done(river.setOut(it, down));
    }

    public int off(int boat) {
        if (!river.isBoat(boat)) {
            return refused(WRONG_NUMBER);
        }
        Boat it = river.boats[boat];
        if (it.how != AGROUND || it.draught() > river.waterOn(it.place, river.today())) {
            return refused(NOT_SO);
        }
        river.comeTo(it, it.leftFrom);
        return done(it.place);
    }

    public int go(int n) {
        if (!isWithin(n, 1, 200)) {
            return refused(WRONG_NUMBER);
        }
        if (river.quarter + n > LAST_QUARTER) {
            return refused(NO_ROOM);
        }
        for (int i = 0; i < n; i++) {
            river.goOneQuarter();
        }
        return done(river.quarter);
    }

    public int yard(int landing, int price) {
        if (!river.isLanding(landing) || !isWithin(price, 0, 99)) {
            return refused(WRONG_NUMBER);
        }
        Landing it = river.landings[landing];
        int before = it.price;
        it.price = price;
        return done(before);
    }

    public int wood(int boat, int n) {
        if (!river.isBoat(boat) || !isWithin(n, 1, MOST_CORDS)) {
            return refused(WRONG_NUMBER);
        }
        Boat it = river.boats[boat];
        boolean sold = it.how == AT_LANDING && river.landings[it.place].price > 0;
        if (!sold || it.cords + n > it.tank) {
            return refused(NOT_SO);
        }
        it.cords += n;
        return done(it.cords);
    }

    public int trip(int from, int to, int waits) {
        if (!river.isWay(from, to) || !isWithin(waits, 0, 9)) {
            return refused(WRONG_NUMBER);
        }
        if (river.tripCount >= MOST_TRIPS) {
            return refused(NO_ROOM);
        }
        int number = river.tripCount++;
        river.trips[number].begin(from, to, waits);
        return done(number);
    }

    public int rule(int kind, int how, int days) {
        boolean known = isWithin(kind, 0, KINDS - 1) && isWithin(how, 0, 2);
        if (!known || !isWithin(days, 0, DAYS * DAYS - 1) || days % DAYS < days / DAYS) {
            return refused(WRONG_NUMBER);
        }
        if (river.ruleCount >= MOST_RULES) {
            return refused(NO_ROOM);
        }
        int number = river.ruleCount++;
        river.rules[number].begin(kind, how, days / DAYS, days % DAYS);
        return done(number);
    }

    public int image() {
        if (kept == null) {
            kept = new River();
        }
        kept.copyFrom(river);
        return done(1);
    }

    public int back() {
        if (timesBack >= MOST_BACKS) {
            return refused(NO_ROOM);
        }
        if (kept == null) {
            return refused(NOT_SO);
        }
        timesBack++;
        river.copyFrom(kept);
        return done(river.quarter);
    }

    // ---- questions ----

    public int height(int day) {
        return isDay(day) ? river.heightOn(day) : NO;
    }

    public int stretchTold(int stretch, int what) {
        if (!river.isStretch(stretch)) {
            return NO;
        }
        Stretch it = river.stretches[stretch];
        switch (what) {
            case 0: return it.kind;
            case 1: return it.length;
            case 2: return it.depth;
            case 3: return it.lit ? 1 : 0;
            case 4: return it.shiftOn(river.today());
            case 5: return river.longNow(stretch);
            default: return NO;
        }
    }

    public int water(int stretch, int day) {
        return river.isStretch(stretch) && isDay(day) ? river.waterOn(stretch, day) : NO;
    }

    public int boatTold(int boat, int what) {
        if (!river.isBoat(boat)) {
            return NONE;
        }
        Boat it = river.boats[boat];
        switch (what) {
            case 0: return it.how;
            case 1: return it.place;
            case 2: return it.isUnderWay() ? it.until : 0;
            case 3: return it.load;
            case 4: return it.draught();
            case 5: return it.cords;
            default: return NONE;
        }
    }

    public int baleTold(int bale, int what) {
        if (!river.isBale(bale)) {
            return NONE;
        }
        Bale it = river.bales[bale];
        switch (what) {
            case 0: return it.how;
            case 1: return it.place;
            case 2: return it.to;
            case 3: return it.weight;
            case 4: return it.rate;
            default: return NONE;
        }
    }

    public int why(int boat, boolean down) {
        return river.isBoat(boat) ? river.whyNot(river.boats[boat], down) : NONE;
    }

    public int knows(int boat, int stretch, int what) {
        if (!river.isBoat(boat) || !river.isStretch(stretch)) {
            return NO;
        }
        return river.boats[boat].words.toldOf(stretch, what);
    }

    public int box(int landing, int stretch, int what) {
        if (!river.isLanding(landing) || !river.isStretch(stretch)) {
            return NO;
        }
        return river.landings[landing].words.toldOf(stretch, what);
    }

    public int lading(int boat, int water) {
        if (!river.isBoat(boat)) {
            return NONE;
        }
        Boat it = river.boats[boat];
        if (it.how != AT_LANDING || it.draught() > water) {
            return NONE;
        }
        return bestSet(it, water, listBalesAt(it.place));
    }

    public int wooding(int boat, int from, int to) {
        if (!river.isBoat(boat) || !river.isLanding(from) || !river.isLanding(to)) {
            return NONE;
        }
        woodPlan.workOut(river, river.boats[boat].tank, from, to);
        return woodPlan.leastCost();
    }

    public int bought(int boat, int from, int to, int i) {
        if (!river.isBoat(boat) || !river.isLanding(from) || !river.isLanding(to)) {
            return NONE;
        }
        woodPlan.workOut(river, river.boats[boat].tank, from, to);
        return woodPlan.cordsAt(i);
    }

    public int lights() {
        int dark = river.darkCrossings();
        int best = dark;
        // The sets come by rising numbers, so of like ones the first stays.
        for (int set = 0; set < dark; set++) {
            boolean better = (set & ~dark) == 0 && Integer.bitCount(set) < Integer.bitCount(best);
            if (better && river.tripsBear(dark & ~set)) {
                best = set;
            }
        }
        return best;
    }

    public int gives(int a, int b, int stretch, boolean aUp, boolean bUp) {
        if (!river.isBoat(a) || !river.isBoat(b) || a == b || !river.isStretch(stretch)) {
            return NONE;
        }
        int kind = river.stretches[stretch].kind;
        int yielding = NONE;
        for (int i = 0; i < river.ruleCount && yielding == NONE; i++) {
            Rule law = river.rules[i];
            if (law.isInForce(river.today()) && isUnder(kind, law.kind)) {
                yielding = yieldingBy(law.how, a, b, aUp, bUp);
            }
        }
        return yielding;
    }

    public int count(int what) {
        switch (what) {
            case 0: return river.stretchCount;
            case 1: return river.boatCount;
            case 2: return river.baleCount;
            case 3: return river.tripCount;
            case 4: return river.ruleCount;
            case 5: return river.quarter;
            case 6: return river.paidRates;
            case 7: return river.boatsAground();
            case 8: return river.isNight() ? 1 : 0;
            case 9: return acts.bodyCount;
            default: return NONE;
        }
    }

    // ---- acts ----

    public int act(int stretch, int act, int x) {
        if (!river.isStretch(stretch) || !isWithin(act, 0, Acts.COUNT - 1)) {
            return refused(WRONG_NUMBER);
        }
        return done(acts.begin(river.stretches[stretch], act, x));
    }

    public int trace(int i) {
        return isWithin(i, 0, acts.bodyCount - 1) ? acts.bodies[i] : NONE;
    }

    // ---- sheets and the host ----

    public int sheet(int sheet, int sort, int n) {
        boolean takesAway = sort == NONE;
        boolean makes = isWithin(sort, BYTES, FLOATS) && isWithin(n, 0, MOST_NUMBERS);
        if (!isSheet(sheet) || !takesAway && !makes) {
            return refused(WRONG_NUMBER);
        }
        sheets[sheet].begin(sort, takesAway ? 0 : n);
        return done(1);
    }

    public int cell(int sheet, int i, int v) {
        if (!isSheet(sheet) || !isWithin(v, -1000, 1000)) {
            return refused(WRONG_NUMBER);
        }
        Sheet it = sheets[sheet];
        if (it.isMissing()) {
            return refused(NOTHING_THERE);
        }
        if (!it.hasPlace(i)) {
            return refused(PLACE_OUTSIDE);
        }
        it.put(i, v);
        return done(1);
    }

    public int none(int sheet, int i) {
        if (!isSheet(sheet)) {
            return refused(WRONG_NUMBER);
        }
        Sheet it = sheets[sheet];
        int fault = it.faultAs(FLOATS);
        if (fault != DONE) {
            return refused(fault);
        }
        if (!it.hasPlace(i)) {
            return refused(PLACE_OUTSIDE);
        }
        it.numbers[i] = Sheet.NO_NUMBER;
        return done(1);
    }

    public int gauges(int day, int sheet, int i, int n) {
        boolean known = isDay(day) && isSheet(sheet) && isWithin(n, 0, MOST_NUMBERS);
        if (!known || day + n > DAYS) {
            return refused(WRONG_NUMBER);
        }
        Sheet it = sheets[sheet];
        int fault = it.faultAs(FLOATS);
        if (fault != DONE) {
            return refused(fault);
        }
        for (int k = 0; k < n; k++) {
            if (!it.hasPlace(i + k)) {
                return refused(PLACE_OUTSIDE);
            }
            tellFromFloat(day + k, it.numbers[i + k]);
        }
        return done(river.daysTold);
    }

    public int forge(int what, int n, int k) {
        if (!isWithin(n, -100, 100) || !isWithin(k, -100, 100)) {
            return refused(WRONG_NUMBER);
        }
        switch (what) {
            case 0: return forgeKind(Math.floorMod(n, KINDS), Math.floorMod(k, MOST_STRETCHES));
            case 1: return n < 0 ? refused(SIZE_BELOW_ZERO) : done(n);
            case 2: return forgeShort(sheets[Math.floorMod(k, SHEETS)], n);
            case 3: return forgeCopy(sheets[Math.floorMod(k, SHEETS)], n);
            case 4: return forgeRow(Math.floorMod(k, MOST_STRETCHES));
            case 5: return n == 0 ? refused(DIVIDED_BY_ZERO) : done(1000 / n);
            case 6: return Math.floorMod(n, 2) == 0 ? refused(NOTHING_THERE) : done(1);
            default: return refused(WRONG_NUMBER);
        }
    }

    public int status() {
        return latestStatus;
    }

    // ---- helpers of the face ----

    private int done(int answer) {
        latestStatus = DONE;
        return answer;
    }

    private int refused(int reason) {
        latestStatus = reason;
        return NONE;
    }

    private static boolean isWithin(int number, int least, int most) {
        return number >= least && number <= most;
    }

    private static boolean isDay(int day) {
        return isWithin(day, 0, DAYS - 1);
    }

    private static boolean isSheet(int sheet) {
        return isWithin(sheet, 0, SHEETS - 1);
    }

    private static boolean isUnder(int kind, int upper) {
        int at = kind;
        for (int i = 0; i < KINDS && at != upper && at != NONE; i++) {
            at = KIND_ABOVE[at];
        }
        return at == upper;
    }

    private int listBalesAt(int landing) {
        int listed = 0;
        for (int i = 0; i < river.baleCount; i++) {
            Bale it = river.bales[i];
            if (it.how == AT_LANDING && it.place == landing) {
                choice[listed] = i;
                listed++;
            }
        }
        return listed;
    }

    private int bestSet(Boat boat, int water, int listed) {
        int best = 0;
        int bestRates = 0;
        int bestWeight = 0;
        int rates = 0;
        int weight = 0;
        int bits = 0;
        // The sets come by rising numbers, so of like ones the first stays;
        // from one number to the next only the lowest bits change.
        for (int set = 1; set < 1 << listed; set++) {
            int changed = set ^ (set - 1);
            for (int i = 0; i < listed && (changed >> i & 1) == 1; i++) {
                Bale it = river.bales[choice[i]];
                boolean enters = (set >> i & 1) == 1;
                rates += enters ? it.rate : -it.rate;
                weight += enters ? it.weight : -it.weight;
                bits ^= 1 << choice[i];
            }
            boolean better = rates > bestRates || rates == bestRates && weight < bestWeight;
            if (better && boat.canTake(weight, water)) {
                best = bits;
                bestRates = rates;
                bestWeight = weight;
            }
        }
        return best;
    }

    private int yieldingBy(int how, int a, int b, boolean aUp, boolean bUp) {
        if (how == 0) {
            return aUp == bUp ? NONE : aUp ? a : b;
        }
        if (how == 1) {
            int draughtA = river.boats[a].draught();
            int draughtB = river.boats[b].draught();
            return draughtA == draughtB ? NONE : draughtA < draughtB ? a : b;
        }
        return Math.max(a, b);
    }

    private void tellFromFloat(int day, int halves) {
        if (halves == Sheet.NO_NUMBER) {
            return;
        }
        int told = halves / 2;
        if (isWithin(told, LOWEST_HEIGHT, HIGHEST_HEIGHT)) {
            river.tellHeight(day, told);
        }
    }

    private int forgeKind(int upper, int stretch) {
        if (!river.isStretch(stretch)) {
            return refused(NOTHING_THERE);
        }
        int kind = river.stretches[stretch].kind;
        return isUnder(kind, upper) ? done(kind) : refused(OTHER_SORT);
    }

    private int forgeShort(Sheet from, int place) {
        int fault = from.faultAs(SHORTS);
        if (fault != DONE) {
            return refused(fault);
        }
        return from.hasPlace(place) ? done(from.numbers[place]) : refused(PLACE_OUTSIDE);
    }

    private int forgeCopy(Sheet from, int n) {
        int fault = from.faultAs(BYTES);
        if (fault != DONE) {
            return refused(fault);
        }
        if (n < 0 || 1 + n > from.size || n + n > 6) {
            return refused(PLACE_OUTSIDE);
        }
        int sum = 0;
        for (int i = 1; i <= n; i++) {
            sum += from.numbers[i];
        }
        return done(sum);
    }

    private int forgeRow(int stretch) {
        if (!river.isStretch(stretch)) {
            return done(0);
        }
        int kind = river.stretches[stretch].kind;
        return isUnder(kind, BAR) ? done(kind) : refused(DOES_NOT_FIT);
    }

    /** All that an image keeps. */
    private static final class River {
        private int quarter = 0;
        private int stretchCount = 0;
        private int boatCount = 0;
        private int baleCount = 0;
        private int tripCount = 0;
        private int ruleCount = 0;
        private int daysTold = 0;
        private int paidRates = 0;
        private final int[] heights = new int[DAYS];
        private final boolean[] coldDays = new boolean[DAYS];
        private final Stretch[] stretches = new Stretch[MOST_STRETCHES];
        private final Landing[] landings = new Landing[MOST_LANDINGS];
        private final Boat[] boats = new Boat[MOST_BOATS];
        private final Bale[] bales = new Bale[MOST_BALES];
        private final Trip[] trips = new Trip[MOST_TRIPS];
        private final Rule[] rules = new Rule[MOST_RULES];

        private River() {
            Arrays.fill(heights, NO);
            for (int i = 0; i < MOST_STRETCHES; i++) {
                stretches[i] = new Stretch();
            }
            for (int i = 0; i < MOST_LANDINGS; i++) {
                landings[i] = new Landing();
            }
            for (int i = 0; i < MOST_BOATS; i++) {
                boats[i] = new Boat();
            }
            for (int i = 0; i < MOST_BALES; i++) {
                bales[i] = new Bale();
            }
            for (int i = 0; i < MOST_TRIPS; i++) {
                trips[i] = new Trip();
            }
            for (int i = 0; i < MOST_RULES; i++) {
                rules[i] = new Rule();
            }
        }

        private void copyFrom(River other) {
            quarter = other.quarter;
            stretchCount = other.stretchCount;
            boatCount = other.boatCount;
            baleCount = other.baleCount;
            tripCount = other.tripCount;
            ruleCount = other.ruleCount;
            daysTold = other.daysTold;
            paidRates = other.paidRates;
            System.arraycopy(other.heights, 0, heights, 0, DAYS);
            for (int i = 0; i < DAYS; i++) {
                coldDays[i] = other.coldDays[i];
            }
            copyThings(other);
        }

        // The places beyond the counts too, so that a later landing has no price or box of one that is gone.
        private void copyThings(River other) {
            for (int i = 0; i < MOST_STRETCHES; i++) {
                stretches[i].copyFrom(other.stretches[i]);
            }
            for (int i = 0; i < MOST_LANDINGS; i++) {
                landings[i].copyFrom(other.landings[i]);
            }
            for (int i = 0; i < MOST_BOATS; i++) {
                boats[i].copyFrom(other.boats[i]);
            }
            for (int i = 0; i < MOST_BALES; i++) {
                bales[i].copyFrom(other.bales[i]);
            }
            for (int i = 0; i < MOST_TRIPS; i++) {
                trips[i].copyFrom(other.trips[i]);
            }
            for (int i = 0; i < MOST_RULES; i++) {
                rules[i].copyFrom(other.rules[i]);
            }
        }

        private boolean isStretch(int stretch) {
            return isWithin(stretch, 0, stretchCount - 1);
        }

        private boolean isLanding(int landing) {
            return isWithin(landing, 0, stretchCount);
        }

        private boolean isBoat(int boat) {
            return isWithin(boat, 0, boatCount - 1);
        }

        private boolean isBale(int bale) {
            return isWithin(bale, 0, baleCount - 1);
        }

        private boolean isWay(int from, int to) {
            return isLanding(from) && isLanding(to) && from != to;
        }

        private int today() {
            return quarter / QUARTERS_OF_DAY;
        }

        private boolean isNight() {
            return !isWithin(quarter % QUARTERS_OF_DAY, 24, 71);
        }

        private void tellHeight(int day, int height) {
            if (heights[day] == NO) {
                daysTold++;
            }
            heights[day] = height;
        }

        private int heightOn(int day) {
            int ahead = day;
            while (ahead >= 0 && heights[ahead] == NO) {
                ahead--;
            }
            int behind = day;
            while (behind < DAYS && heights[behind] == NO) {
                behind++;
            }
            if (ahead < 0) {
                return behind < DAYS ? heights[behind] : 0;
            }
            if (behind >= DAYS || behind == ahead) {
                return heights[ahead];
            }
            int rise = heights[behind] - heights[ahead];
            return heights[ahead] + rise * (day - ahead) / (behind - ahead);
        }

        private int waterOn(int stretch, int day) {
            Stretch it = stretches[stretch];
            if (it.kind == LOCK) {
                return it.depth;
            }
            if (it.kind == ICE && coldDays[day]) {
                return 0;
            }
            return it.depth + heightOn(day) - it.shiftOn(day);
        }

        private int longNow(int stretch) {
            boolean dark = isNight() && stretches[stretch].kind == CROSSING && !stretches[stretch].lit;
            return longByDaylight(stretch) + (dark ? 8 : 0);
        }

        private int longByDaylight(int stretch) {
            Stretch it = stretches[stretch];
            if (it.kind == LOCK) {
                return it.length + 4;
            }
            if (it.kind == BEND && heightOn(today()) >= 20) {
                return (it.length + 1) / 2;
            }
            return it.length;
        }

        private int whyNot(Boat boat, boolean down) {
            if (boat.how != AT_LANDING) {
                return 1;
            }
            int stretch = boat.stretchToward(down);
            if (!isStretch(stretch)) {
                return 2;
            }
            if (boat.words.isKnown(stretch) && boat.words.waters[stretch] < boat.draught()) {
                return 3;
            }
            return boat.cords < longNow(stretch) ? 4 : 0;
        }

        private int setOut(Boat boat, boolean down) {
            int stretch = boat.stretchToward(down);
            int water = waterOn(stretch, today());
            boat.words.learn(stretch, water, quarter);
            boat.leftFrom = boat.place;
            boat.place = stretch;
            if (boat.draught() > water) {
                boat.how = AGROUND;
                return 0;
            }
            int lasts = longNow(stretch);
            boat.how = down ? UNDER_WAY_DOWN : UNDER_WAY_UP;
            boat.until = quarter + lasts;
            boat.cords -= lasts;
            return lasts;
        }

        private void goOneQuarter() {
            quarter++;
            for (int i = 0; i < boatCount; i++) {
                Boat it = boats[i];
                if (it.isUnderWay() && it.until == quarter) {
                    comeTo(it, it.how == UNDER_WAY_DOWN ? it.place + 1 : it.place);
                }
            }
        }

        private void comeTo(Boat boat, int landing) {
            boat.how = AT_LANDING;
            boat.place = landing;
            boat.words.exchange(landings[landing].words);
        }

        private Boat carrierOf(Bale bale) {
            return bale.how == ABOARD && isBoat(bale.place) ? boats[bale.place] : null;
        }

        private int boatsAground() {
            int found = 0;
            for (int i = 0; i < boatCount; i++) {
                found += boats[i].how == AGROUND ? 1 : 0;
            }
            return found;
        }

        private int darkCrossings() {
            int bits = 0;
            for (int i = 0; i < stretchCount; i++) {
                boolean dark = stretches[i].kind == CROSSING && !stretches[i].lit;
                bits |= dark ? 1 << i : 0;
            }
            return bits;
        }

        private boolean tripsBear(int dark) {
            for (int i = 0; i < tripCount; i++) {
                if (Integer.bitCount(dark & trips[i].wayBits()) > trips[i].waits) {
                    return false;
                }
            }
            return true;
        }
    }

    /** A stretch of the river. */
    private static final class Stretch {
        private int number = 0;
        private int kind = 0;
        private int length = 0;
        private int depth = 0;
        private boolean lit = false;
        private final int[] shifts = new int[DAYS];

        private void begin(int newNumber, int newKind, int newLength, int newDepth) {
            number = newNumber;
            kind = newKind;
            length = newLength;
            depth = newDepth;
            lit = false;
            Arrays.fill(shifts, NO);
        }

        private void copyFrom(Stretch other) {
            number = other.number;
            kind = other.kind;
            length = other.length;
            depth = other.depth;
            lit = other.lit;
            System.arraycopy(other.shifts, 0, shifts, 0, DAYS);
        }

        private int shiftOn(int day) {
            int latest = day;
            while (latest >= 0 && shifts[latest] == NO) {
                latest--;
            }
            return latest >= 0 ? shifts[latest] : 0;
        }
    }

    /** At most one word on each stretch; one that was never seen has the quarter NONE, which is older than any. */
    private static final class Words {
        private final int[] waters = new int[MOST_STRETCHES];
        private final int[] quarters = new int[MOST_STRETCHES];

        private Words() {
            Arrays.fill(quarters, NONE);
        }

        private void forgetAll() {
            Arrays.fill(quarters, NONE);
        }

        private void copyFrom(Words other) {
            System.arraycopy(other.waters, 0, waters, 0, MOST_STRETCHES);
            System.arraycopy(other.quarters, 0, quarters, 0, MOST_STRETCHES);
        }

        private boolean isKnown(int stretch) {
            return quarters[stretch] != NONE;
        }

        private void learn(int stretch, int water, int quarter) {
            waters[stretch] = water;
            quarters[stretch] = quarter;
        }

        private void exchange(Words other) {
            for (int i = 0; i < MOST_STRETCHES; i++) {
                if (quarters[i] > other.quarters[i]) {
                    other.learn(i, waters[i], quarters[i]);
                } else if (quarters[i] < other.quarters[i]) {
                    learn(i, other.waters[i], other.quarters[i]);
                }
            }
        }

        private int toldOf(int stretch, int what) {
            if (!isKnown(stretch) || !isWithin(what, 0, 1)) {
                return NO;
            }
            return what == 0 ? waters[stretch] : quarters[stretch];
        }
    }

    /** A landing between two stretches, with its yard and its box. */
    private static final class Landing {
        private int price = 0;
        private final Words words = new Words();

        private void copyFrom(Landing other) {
            price = other.price;
            words.copyFrom(other.words);
        }
    }

    /** A boat; its place is a landing or a stretch, by how it is. */
    private static final class Boat {
        private int hull = 0;
        private int room = 0;
        private int tank = 0;
        private int cords = 0;
        private int load = 0;
        private int how = AT_LANDING;
        private int place = 0;
        private int leftFrom = 0;
        private int until = 0;
        private final Words words = new Words();

        private void begin(int landing, int newHull, int newRoom, int newTank) {
            hull = newHull;
            room = newRoom;
            tank = newTank;
            cords = newTank;
            load = 0;
            how = AT_LANDING;
            place = landing;
            words.forgetAll();
        }

        private void copyFrom(Boat other) {
            hull = other.hull;
            room = other.room;
            tank = other.tank;
            cords = other.cords;
            load = other.load;
            how = other.how;
            place = other.place;
            leftFrom = other.leftFrom;
            until = other.until;
            words.copyFrom(other.words);
        }

        private boolean isUnderWay() {
            return how == UNDER_WAY_DOWN || how == UNDER_WAY_UP;
        }

        private int stretchToward(boolean down) {
            return down ? place : place - 1;
        }

        private int draught() {
            return draughtWith(0);
        }

        private int draughtWith(int more) {
            return hull + (load + more) / 10;
        }

        private boolean canTake(int weight, int water) {
            return load + weight <= room && draughtWith(weight) <= water;
        }
    }

    /** A bale; its place is a landing or a boat, by how it is. */
    private static final class Bale {
        private int to = 0;
        private int weight = 0;
        private int rate = 0;
        private int how = AT_LANDING;
        private int place = 0;

        private void begin(int from, int newTo, int newWeight, int newRate) {
            to = newTo;
            weight = newWeight;
            rate = newRate;
            how = AT_LANDING;
            place = from;
        }

        private void copyFrom(Bale other) {
            to = other.to;
            weight = other.weight;
            rate = other.rate;
            how = other.how;
            place = other.place;
        }
    }

    /** A trip that bears some waits at crossings without light. */
    private static final class Trip {
        private int from = 0;
        private int to = 0;
        private int waits = 0;

        private void begin(int newFrom, int newTo, int newWaits) {
            from = newFrom;
            to = newTo;
            waits = newWaits;
        }

        private void copyFrom(Trip other) {
            begin(other.from, other.to, other.waits);
        }

        private int wayBits() {
            return (1 << Math.max(from, to)) - (1 << Math.min(from, to));
        }
    }

    /** A rule of the law. */
    private static final class Rule {
        private int kind = 0;
        private int how = 0;
        private int firstDay = 0;
        private int lastDay = 0;

        private void begin(int newKind, int newHow, int newFirst, int newLast) {
            kind = newKind;
            how = newHow;
            firstDay = newFirst;
            lastDay = newLast;
        }

        private void copyFrom(Rule other) {
            begin(other.kind, other.how, other.firstDay, other.lastDay);
        }

        private boolean isInForce(int day) {
            return isWithin(day, firstDay, lastDay);
        }
    }

    /** A row of numbers of a sort, or missing; floats are kept as their halves. */
    private static final class Sheet {
        private static final int NO_NUMBER = -9999;

        private int sort = NONE;
        private int size = 0;
        private final int[] numbers = new int[MOST_NUMBERS];

        private void begin(int newSort, int newSize) {
            sort = newSort;
            size = newSize;
            Arrays.fill(numbers, 0);
        }

        private boolean isMissing() {
            return sort == NONE;
        }

        private boolean hasPlace(int i) {
            return isWithin(i, 0, size - 1);
        }

        private int faultAs(int wanted) {
            if (isMissing()) {
                return NOTHING_THERE;
            }
            return sort == wanted ? DONE : OTHER_SORT;
        }

        private void put(int i, int v) {
            numbers[i] = sort == BYTES ? (byte) v : v;
        }
    }

    /** The cheapest way to buy wood at the landings on a way. */
    private static final class Wooding {
        private static final int LEVELS = MOST_CORDS + 1;
        // Above any cost: ten stretches take 24 cords at most, at 99 each.
        private static final int NO_WAY = 1000000;

        private int steps = 0;
        private int tank = 0;
        private final int[] prices = new int[MOST_STRETCHES];
        private final int[] needs = new int[MOST_STRETCHES];
        // By step and by the wood that comes to it: the least cost from there to the end.
        private final int[] least = new int[MOST_LANDINGS * LEVELS];

        private void workOut(River river, int newTank, int from, int to) {
            tank = newTank;
            steps = Math.abs(to - from);
            boolean down = to > from;
            for (int i = 0; i < steps; i++) {
                int landing = down ? from + i : from - i;
                prices[i] = river.landings[landing].price;
                needs[i] = river.longByDaylight(down ? landing : landing - 1);
            }
            for (int level = 0; level <= tank; level++) {
                least[steps * LEVELS + level] = 0;
            }
            for (int i = steps - 1; i >= 0; i--) {
                workOutStep(i);
            }
        }

        private void workOutStep(int step) {
            int price = prices[step];
            int bestFromNothing = NO_WAY;
            for (int level = tank; level >= 0; level--) {
                int onward = costOnward(step, level);
                if (price == 0) {
                    bestFromNothing = onward;
                } else if (onward != NO_WAY) {
                    bestFromNothing = Math.min(bestFromNothing, onward + price * level);
                }
                boolean open = bestFromNothing != NO_WAY;
                least[step * LEVELS + level] = open ? bestFromNothing - price * level : NO_WAY;
            }
        }

        private int costOnward(int step, int level) {
            int left = level - needs[step];
            return left < 0 ? NO_WAY : least[(step + 1) * LEVELS + left];
        }

        private int leastCost() {
            return least[0] == NO_WAY ? NONE : least[0];
        }

        private int cordsAt(int place) {
            if (!isWithin(place, 0, steps - 1) || least[0] == NO_WAY) {
                return NONE;
            }
            int level = 0;
            for (int step = 0; step < place; step++) {
                level += cordsFrom(step, level) - needs[step];
            }
            return cordsFrom(place, level);
        }

        private int cordsFrom(int step, int level) {
            int wanted = least[step * LEVELS + level];
            for (int cords = 0; level + cords <= tank; cords++) {
                int onward = costOnward(step, level + cords);
                if (onward != NO_WAY && onward + cords * prices[step] == wanted) {
                    return cords;
                }
            }
            return 0;
        }
    }

    /** The acts of stretches, and the bodies that ran in the latest one. */
    private static final class Acts {
        private static final int COUNT = 4;
        private static final int BEAR = 0;
        private static final int MOVE = 1;
        private static final int TO_BAR = 2;
        private static final int TELL = 3;
        // No chain of bodies is longer than the kinds times the acts.
        private static final int DEEPEST = 24;
        // By kind and act; 0: the kind has no body of its own.
        private static final int[] BODIES = {
            10, 11, 12, 13,
            20, 0, 0, 21,
            0, 30, 0, 0,
            41, 0, 40, 0,
            0, 50, 51, 0,
            0, 0, 0, 60,
        };

        private int bodyCount = 0;
        private final int[] bodies = new int[MOST_BODIES];

        private int begin(Stretch stretch, int act, int x) {
            bodyCount = 0;
            return run(this, stretch, stretch.kind, act, x, 0);
        }

        private static int kindWithBody(int from, int act) {
            int kind = from;
            for (int i = 0; i < KINDS && kind != NONE && BODIES[kind * COUNT + act] == 0; i++) {
                kind = KIND_ABOVE[kind];
            }
            return kind;
        }

        private void note(int body) {
            if (bodyCount < MOST_BODIES) {
                bodies[bodyCount] = body;
                bodyCount++;
            }
        }

        private static int run(Acts acts, Stretch it, int from, int act, int x, int deep) {
            int kind = kindWithBody(from, act);
            if (kind == NONE || deep > DEEPEST) {
                return 0;
            }
            int body = BODIES[kind * COUNT + act];
            int above = KIND_ABOVE[kind];
            int next = deep + 1;
            acts.note(body);
            switch (body) {
                case 10: return x + it.depth;
                case 11: return run(acts, it, it.kind, BEAR, x, next) * 2;
                case 12: return x - it.number;
                case 13: return run(acts, it, it.kind, MOVE, x, next) ^ run(acts, it, it.kind, TO_BAR, x, next);
                case 20: return run(acts, it, above, BEAR, x, next) - it.length;
                case 21: return run(acts, it, above, TELL, x + 1, next);
                case 30: return run(acts, it, above, MOVE, x, next) + run(acts, it, it.kind, TO_BAR, it.length, next);
                case 40: return run(acts, it, above, TO_BAR, x, next) * 3;
                case 41: return run(acts, it, above, BEAR, x + it.number, next);
                case 50: return run(acts, it, above, MOVE, x, next) ^ it.depth;
                case 51: return run(acts, it, above, TO_BAR, x + it.length, next);
                case 60: return run(acts, it, it.kind, TO_BAR, x, next) - run(acts, it, above, TELL, x, next);
                default: return 0;
            }
        }
    }
}
