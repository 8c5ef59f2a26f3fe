/** A string of lights, one behind the other: one is out, so all are. */
public final class OneIsOut {
    private static final int MOST_BULBS = 10;
    private static final int MOST_FIGURE = 9;
    private static final int MOST_SORT = 7;
    private static final int MOST_WORN = 999;
    private static final int MOST_SPARES = 9;
    private static final int MOST_HOUR = 999;
    private static final int MOST_LIT = 999;
    private static final int MOST_SECONDS = 9999;
    private static final int MOST_TOOL = 4;
    private static final int MOST_IN_ORDER = 5;
    private static final int MOST_ELEMENTS = 100;
    private static final int SHELF_COUNT = 8;
    private static final int HOURS_AHEAD = 60;
    private static final int LIGHT_HOURS = 30;
    private static final int FROST_HOURS = 7;
    private static final int MOST_WINTERS = 20;
    private static final int WINTER_HOURS = 20;
    private static final int WORN_TRIED = 100;

    private static final int NO_SUCH = -1;
    private static final int NO_ROOM = -2;
    private static final int NOT_SO = -3;
    private static final int NONE = -4;
    private static final int NOTHING_HELD = -11;
    private static final int OTHER_KIND = -12;
    private static final int NO_PLACE = -13;
    private static final int BELOW_ZERO = -14;
    private static final int NO_FAILURE = -15;
    private static final long LONG_REFUSAL = 1000000000L;

    private static final int LEAST_BYTE = -128;
    private static final int LEAST_SHORT = -32768;
    private static final int LEAST_INT = -2147483648;
    private static final int GREATEST_INT = 2147483647;

    private final Lights now = new Lights();
    private final Lights mind = new Lights();
    private final Lights taken = new Lights();
    private boolean imageTaken;
    private final Shelf[] shelves = new Shelf[SHELF_COUNT];
    private final Halving halving = new Halving();

    public OneIsOut() {
        for (int d = 0; d < SHELF_COUNT; d++) {
            shelves[d] = new Shelf();
        }
    }

    // ---- the string as told

    public int string(int d) {
        int refusal = rowRefusal(d);
        if (refusal != 0) {
            return refusal;
        }
        if (shelves[d].kind != Shelf.BYTES) {
            return OTHER_KIND;
        }
        // A text with a fault must change nothing, so it is tried in mind.
        mind.becomes(now);
        int answer = Text.comes(shelves[d], mind);
        if (answer >= 0) {
            now.becomes(mind);
        }
        return answer;
    }

    public int bulb(int b, int what) {
        if (!now.has(b)) {
            return NO_SUCH;
        }
        switch (what) {
            case 0:
                return now.sort[b];
            case 1:
                return now.figure[b];
            case 2:
                return now.worn[b];
            case 3:
                return bit(now.isWhole(b));
            case 4:
                return bit(now.isSeated(b));
            case 5:
                return now.lifeOf(b);
            case 6:
                return Sorts.glow(now.sort[b], now.figure[b]);
            case 7:
                return bit(now.leads(b, now.hour + 1));
            default:
                return NO_SUCH;
        }
    }

    public int hangs(int d) {
        int refusal = bulbRefusal(d);
        if (refusal != 0) {
            return refusal;
        }
        if (now.isFull()) {
            return NO_ROOM;
        }
        now.hang(shelves[d].sort, shelves[d].figure);
        return now.bulbs - 1;
    }

    public int wears(int b, int v) {
        if (!now.has(b) || !within(v, 0, MOST_WORN)) {
            return NO_SUCH;
        }
        int old = now.worn[b];
        now.worn[b] = v;
        return old;
    }

    public int breaks(int b) {
        if (!now.has(b)) {
            return NO_SUCH;
        }
        now.breakOrMend(b);
        return bit(now.isWhole(b));
    }

    public int spares(int v) {
        if (!within(v, 0, MOST_SPARES)) {
            return NO_SUCH;
        }
        int old = now.spares;
        now.spares = v;
        return old;
    }

    public int twist(int b) {
        if (!now.has(b)) {
            return NO_SUCH;
        }
        if (now.spares <= 0) {
            return NOT_SO;
        }
        return now.twistIn(b);
    }

    public int use(int tool, int i, int j) {
        if (!now.canUse(tool, i, j)) {
            return NO_SUCH;
        }
        return bit(now.useTool(tool, i, j));
    }

    public int hours(int n) {
        if (!within(n, 1, HOURS_AHEAD)) {
            return NO_SUCH;
        }
        return now.passes(n) ? now.lit : NOT_SO;
    }

    // ---- hours on

    public int then(int n, int what) {
        if (!within(n, 0, HOURS_AHEAD) || !within(what, 0, 2)) {
            return NO_SUCH;
        }
        mind.becomes(now);
        mind.pass(n);
        if (what == 0) {
            return mind.whole;
        }
        return what == 1 ? mind.lit : mind.wornOfAll();
    }

    public int wornThen(int b, int n) {
        if (!now.has(b) || !within(n, 0, HOURS_AHEAD)) {
            return NO_SUCH;
        }
        mind.becomes(now);
        mind.pass(n);
        return mind.worn[b];
    }

    public int goes(int b) {
        if (b != -1 && !now.has(b)) {
            return NO_SUCH;
        }
        mind.becomes(now);
        return b == -1 ? Ahead.nextOut(mind) : Ahead.hoursTillOut(mind, b);
    }

    public int dark() {
        mind.becomes(now);
        return Ahead.firstDark(mind);
    }

    public int lights(int what) {
        switch (what) {
            case 0:
                return bit(now.burns(now.hour + 1));
            case 1:
                return now.faults();
            case 2:
                return now.brown();
            case 3:
                mind.becomes(now);
                return Ahead.longest(mind);
            case 4:
                return now.weakest();
            default:
                return NO_SUCH;
        }
    }

    // ---- tools in mind, halves, orders

    public int tool(int tool, int i, int j, int what) {
        if (!now.canUse(tool, i, j) || !within(what, 0, 2)) {
            return NO_SUCH;
        }
        mind.becomes(now);
        boolean told = mind.useTool(tool, i, j);
        if (what == 0) {
            return bit(told);
        }
        return what == 1 ? now.toolSeconds(tool, i, j) : mind.hand;
    }

    public int halves(int a, int b, int what) {
        if (!now.isStretch(a, b) || !within(what, 0, 1)) {
            return NO_SUCH;
        }
        return what == 0 ? halving.worst(a, b) : halving.cut(a, b);
    }

    public long mean(int a, int b, int part) {
        if (!now.isStretch(a, b) || !isPart(part)) {
            return longRefusal(NO_SUCH);
        }
        return Odds.leastTerms(halving.weighed(now, a, b), now.oddsOf(a, b), part);
    }

    public int order(int set, int what) {
        if (!now.isSet(set) || Integer.bitCount(set) > MOST_IN_ORDER || !within(what, 0, 1)) {
            return NO_SUCH;
        }
        return what == 0 ? Tries.number(now, set) : Tries.seconds(now, set);
    }

    public int suspects(int d, int what) {
        if (!isShelf(d) || !within(what, 0, 1)) {
            return NO_SUCH;
        }
        int refusal = rowRefusal(d);
        if (refusal != 0) {
            return refusal;
        }
        if (!Wires.areTold(shelves[d], now)) {
            return NO_PLACE;
        }
        return what == 0 ? Wires.ones(shelves[d], now.bulbs) : Wires.twos(shelves[d], now.bulbs);
    }

    public int buy(int n) {
        if (!within(n, 0, HOURS_AHEAD)) {
            return NO_SUCH;
        }
        for (int many = 0; many <= MOST_SPARES; many++) {
            mind.becomes(now);
            mind.spares = many;
            if (Ahead.burnsWithSpares(mind, n)) {
                return many;
            }
        }
        return NONE;
    }

    public int light(int k, int n) {
        boolean isCut = k == 0 || (k > 0 && k < now.bulbs);
        if (!isCut || !within(n, 0, LIGHT_HOURS)) {
            return NO_SUCH;
        }
        return lightOfCut(k, n);
    }

    public int split(int n, int what) {
        if (!within(n, 0, LIGHT_HOURS) || !within(what, 0, 1)) {
            return NO_SUCH;
        }
        int best = 0;
        int most = lightOfCut(0, n);
        for (int k = 1; k < now.bulbs; k++) {
            int light = lightOfCut(k, n);
            if (light > most) {
                best = k;
                most = light;
            }
        }
        return what == 0 ? best : most;
    }

    public int beat(int b, int n, int what) {
        if (!now.has(b) || !within(n, 0, HOURS_AHEAD) || !within(what, 0, 1)) {
            return NO_SUCH;
        }
        int best = 0;
        int most = -1;
        for (int figure = 0; figure <= MOST_FIGURE; figure++) {
            mind.becomes(now);
            mind.figure[b] = figure;
            int burnt = Ahead.hoursBurnt(mind, n);
            if (burnt > most) {
                best = figure;
                most = burnt;
            }
        }
        return what == 0 ? best : most;
    }

    public int end(int what) {
        if (!within(what, 0, 1)) {
            return NO_SUCH;
        }
        int fromFirst = 0;
        int fromLast = 0;
        for (int b = 0; b < now.bulbs; b++) {
            fromFirst += b * now.oddsOf(b);
            fromLast += (now.bulbs - 1 - b) * now.oddsOf(b);
        }
        if (what == 0) {
            return bit(fromLast < fromFirst);
        }
        return Math.min(fromFirst, fromLast);
    }

    // ---- what sort one is

    public int whatIs(int d, int b, int what) {
        if (!isShelf(d) || !now.has(b) || !within(what, 0, 1)) {
            return NO_SUCH;
        }
        int refusal = rowRefusal(d);
        if (refusal != 0) {
            return refusal;
        }
        return what == 0 ? sortsByRow(shelves[d], b) : figuresByRow(shelves[d], b);
    }

    public int wornFrom(int d, int b, int what) {
        if (!isShelf(d) || !now.has(b) || !within(what, 0, 2)) {
            return NO_SUCH;
        }
        int refusal = rowRefusal(d);
        if (refusal != 0) {
            return refusal;
        }
        int many = 0;
        int least = NONE;
        int greatest = NONE;
        for (int worn = 0; worn < WORN_TRIED; worn++) {
            mind.becomes(now);
            mind.worn[b] = worn;
            if (Ahead.wearsAsTold(mind, b, shelves[d], 1)) {
                many++;
                least = least == NONE ? worn : least;
                greatest = worn;
            }
        }
        if (what == 0) {
            return many;
        }
        return what == 1 ? least : greatest;
    }

    public long frost(int b, int n, int t, int part) {
        if (!now.has(b) || !within(n, 0, FROST_HOURS) || !within(t, 2, 20) || !isPart(part)) {
            return longRefusal(NO_SUCH);
        }
        long above = 0;
        for (int frosts = 0; frosts < 1 << n; frosts++) {
            mind.becomes(now);
            mind.passFrosts(n, frosts);
            if (mind.isWhole(b)) {
                above += Odds.power(t - 1, n - Integer.bitCount(frosts));
            }
        }
        return Odds.leastTerms(above, Odds.power(t, n), part);
    }

    public long share(int b, int part) {
        if (!now.has(b) || !isPart(part)) {
            return longRefusal(NO_SUCH);
        }
        return Odds.leastTerms(now.worn[b], now.wornOfAll(), part);
    }

    // ---- told boxes, winters by seeds

    public int forged(int d) {
        int refusal = rowRefusal(d);
        if (refusal != 0) {
            return refusal;
        }
        Shelf told = shelves[d];
        for (int b = 0; b < told.size; b++) {
            if (!now.has(b) || now.sort[b] != told.cells[b]) {
                return b;
            }
        }
        return NONE;
    }

    public int judge(int d) {
        int refusal = rowRefusal(d);
        if (refusal != 0) {
            return refusal;
        }
        mind.becomes(now);
        return Ahead.firstMiscount(mind, shelves[d]);
    }

    public int winters(int n, int z, int what) {
        if (!within(n, 1, MOST_WINTERS) || !within(what, 0, 1)) {
            return NO_SUCH;
        }
        int seed = z;
        int litMore = 0;
        int out = 0;
        for (int winter = 0; winter < n; winter++) {
            mind.becomes(now);
            seed = mind.drawFigures(seed);
            mind.pass(WINTER_HOURS);
            litMore += mind.lit - now.lit;
            out += mind.bulbs - Integer.bitCount(mind.whole);
        }
        return what == 0 ? litMore : out;
    }

    // ---- the image, what is told

    public int image() {
        taken.becomes(now);
        imageTaken = true;
        return now.hour;
    }

    public int restore() {
        if (!imageTaken) {
            return NOT_SO;
        }
        now.becomes(taken);
        return now.hour;
    }

    public int count(int what) {
        switch (what) {
            case 0:
                return now.bulbs;
            case 1:
                return now.hour;
            case 2:
                return now.lit;
            case 3:
                return now.spares;
            case 4:
                return now.seconds;
            case 5:
                return now.hand;
            case 6:
                return now.whole;
            case 7:
                return now.seated;
            default:
                return NO_SUCH;
        }
    }

    // ---- shelves

    public int keep(int d, int what, int k, int figure) {
        if (!isShelf(d) || !within(what, 0, 1)) {
            return NO_SUCH;
        }
        if (what == 0) {
            shelves[d].getNothing();
            return 0;
        }
        if (!within(k, 0, MOST_SORT) || !within(figure, 0, MOST_FIGURE)) {
            return NO_SUCH;
        }
        shelves[d].getBulb(k, figure);
        return 0;
    }

    public int row(int d, int sort, int n) {
        if (!isShelf(d) || !within(sort, 0, 2) || n > MOST_ELEMENTS) {
            return NO_SUCH;
        }
        if (n < 0) {
            return BELOW_ZERO;
        }
        shelves[d].getRow(sort, n);
        return 0;
    }

    public int put(int d, int i, int v) {
        int refusal = rowRefusal(d);
        if (refusal != 0) {
            return refusal;
        }
        if (!shelves[d].hasPlace(i)) {
            return NO_PLACE;
        }
        shelves[d].set(i, v);
        return 0;
    }

    public long element(int d, int i) throws IllegalArgumentException, IllegalStateException {
        if (!isShelf(d)) {
            throw new IllegalArgumentException("no such shelf");
        }
        if (rowRefusal(d) != 0) {
            throw new IllegalStateException("no row");
        }
        if (!shelves[d].hasPlace(i)) {
            throw new IllegalStateException("no such place");
        }
        return shelves[d].cells[i];
    }

    public int copy(int d, int i, int e, int j, int n) {
        if (!isShelf(d) || !isShelf(e)) {
            return NO_SUCH;
        }
        Shelf from = shelves[d];
        Shelf to = shelves[e];
        if (from.holds == Shelf.NOTHING || to.holds == Shelf.NOTHING) {
            return NOTHING_HELD;
        }
        if (from.holds != Shelf.ROW || to.holds != Shelf.ROW || from.kind != to.kind) {
            return OTHER_KIND;
        }
        if (!from.hasStretch(i, n) || !to.hasStretch(j, n)) {
            return NO_PLACE;
        }
        System.arraycopy(from.cells, i, to.cells, j, n);
        return n;
    }

    public int cost(int d) {
        int refusal = bulbRefusal(d);
        if (refusal != 0) {
            return refusal;
        }
        return Sorts.price(shelves[d].sort, shelves[d].figure);
    }

    public int toss(int d) {
        int refusal = bulbRefusal(d);
        if (refusal != 0) {
            return refusal;
        }
        return Sorts.failure(shelves[d].sort, shelves[d].figure);
    }

    // ---- what the face needs

    private static boolean within(int v, int least, int most) {
        return v >= least && v <= most;
    }

    private static boolean isPart(int part) {
        return within(part, 0, 1);
    }

    private static boolean isShelf(int d) {
        return within(d, 0, SHELF_COUNT - 1);
    }

    private static int bit(boolean so) {
        return so ? 1 : 0;
    }

    private static long longRefusal(int refusal) {
        return LONG_REFUSAL - refusal;
    }

    /** 0, or why shelf d is not one with a row. */
    private int rowRefusal(int d) {
        if (!isShelf(d)) {
            return NO_SUCH;
        }
        if (shelves[d].holds == Shelf.NOTHING) {
            return NOTHING_HELD;
        }
        return shelves[d].holds == Shelf.ROW ? 0 : OTHER_KIND;
    }

    /** 0, or why shelf d is not one with a bulb. */
    private int bulbRefusal(int d) {
        if (!isShelf(d)) {
            return NO_SUCH;
        }
        if (shelves[d].holds == Shelf.NOTHING) {
            return NOTHING_HELD;
        }
        return shelves[d].holds == Shelf.BULB ? 0 : OTHER_KIND;
    }

    private int lightOfCut(int k, int n) {
        mind.becomes(now);
        int light = 0;
        for (int hour = 0; hour < n; hour++) {
            light += mind.cutHour(k);
        }
        return light;
    }

    private int sortsByRow(Shelf told, int b) {
        int sorts = 0;
        for (int sort = 0; sort <= MOST_SORT; sort++) {
            mind.becomes(now);
            mind.sort[b] = sort;
            if (Ahead.wearsAsTold(mind, b, told, 0)) {
                sorts |= 1 << sort;
            }
        }
        return sorts;
    }

    private int figuresByRow(Shelf told, int b) {
        int figures = 0;
        for (int figure = 0; figure <= MOST_FIGURE; figure++) {
            mind.becomes(now);
            mind.figure[b] = figure;
            if (Ahead.wearsAsTold(mind, b, told, 0)) {
                figures |= 1 << figure;
            }
        }
        return figures;
    }

    /** What a sort is by itself: its life, glow, price and failure. */
    static final class Sorts {
        static final int LOOSE = 1;
        static final int COLD = 2;
        static final int SHORTED = 3;
        static final int BLINKER = 4;
        static final int PAINTED = 5;
        static final int SPARE = 6;
        static final int LAST = 7;

        static int life(int sort, int figure) {
            int ofBulb = 60 + 10 * figure;
            int ofPainted = ofBulb - 20;
            switch (sort) {
                case COLD:
                    return ofBulb / 2;
                case PAINTED:
                    return ofPainted;
                case SPARE:
                    return 150;
                case LAST:
                    return 2 * ofPainted;
                default:
                    return ofBulb;
            }
        }

        static int glow(int sort, int figure) {
            int ofBulb = 4;
            int ofPainted = ofBulb - 1;
            switch (sort) {
                case COLD:
                    return 1;
                case SHORTED:
                    return 0;
                case PAINTED:
                    return ofPainted;
                case SPARE:
                    return ofBulb + figure / 2;
                case LAST:
                    return ofPainted + 2;
                default:
                    return ofBulb;
            }
        }

        static int price(int sort, int figure) {
            int ofPainted = 2 * figure;
            switch (sort) {
                case LOOSE:
                    return 1;
                case COLD:
                    return figure + 2;
                case SHORTED:
                    return 0;
                case BLINKER:
                    return 7;
                case PAINTED:
                    return ofPainted;
                case SPARE:
                    return 3;
                case LAST:
                    return ofPainted + 1;
                default:
                    return figure;
            }
        }

        static int failure(int sort, int figure) {
            if (figure == 0) {
                return NO_FAILURE;
            }
            switch (sort) {
                case COLD:
                case SHORTED:
                case SPARE:
                    return NO_FAILURE;
                case BLINKER:
                    return 100 + figure;
                case PAINTED:
                case LAST:
                    return 200 + price(sort, figure);
                default:
                    return figure;
            }
        }
    }

    /** The string with all that an image holds: bulbs, spares, hours, the hand and its seconds. */
    static final class Lights {
        static final int LOOK = 0;
        static final int KNOCK = 1;
        static final int NEEDLE = 2;
        static final int WIRE = 3;
        static final int TRY_SECONDS = 8;
        static final int SPARE_FIGURE = 5;

        final int[] sort = new int[MOST_BULBS];
        final int[] figure = new int[MOST_BULBS];
        final int[] worn = new int[MOST_BULBS];
        int bulbs;
        int whole;
        int seated;
        int spares = 1;
        int hour;
        int lit;
        int hand;
        int seconds;

        void becomes(Lights other) {
            System.arraycopy(other.sort, 0, sort, 0, MOST_BULBS);
            System.arraycopy(other.figure, 0, figure, 0, MOST_BULBS);
            System.arraycopy(other.worn, 0, worn, 0, MOST_BULBS);
            bulbs = other.bulbs;
            whole = other.whole;
            seated = other.seated;
            spares = other.spares;
            hour = other.hour;
            lit = other.lit;
            hand = other.hand;
            seconds = other.seconds;
        }

        boolean has(int b) {
            return b >= 0 && b < bulbs;
        }

        boolean isStretch(int a, int b) {
            return has(a) && has(b) && a <= b;
        }

        boolean isSet(int set) {
            return set >= 0 && set < 1 << bulbs;
        }

        boolean isFull() {
            return bulbs >= MOST_BULBS;
        }

        boolean isWhole(int b) {
            return (whole >> b & 1) == 1;
        }

        boolean isSeated(int b) {
            return (seated >> b & 1) == 1;
        }

        int lifeOf(int b) {
            return Sorts.life(sort[b], figure[b]);
        }

        boolean isBrown(int b) {
            return worn[b] >= lifeOf(b) / 2;
        }

        /** Odds by which bulb b is the one that is out. */
        int oddsOf(int b) {
            return worn[b] + 1;
        }

        int oddsOf(int a, int b) {
            int odds = 0;
            for (int at = a; at <= b; at++) {
                odds += oddsOf(at);
            }
            return odds;
        }

        void hang(int newSort, int newFigure) {
            if (isFull()) {
                return;
            }
            bulbs++;
            renew(bulbs - 1, newSort, newFigure);
        }

        private void renew(int b, int newSort, int newFigure) {
            sort[b] = newSort;
            figure[b] = newFigure;
            worn[b] = 0;
            whole |= 1 << b;
            seated |= 1 << b;
        }

        void breakOrMend(int b) {
            whole ^= 1 << b;
        }

        /** A spare is put in the socket of bulb b, in no time. */
        void putSpare(int b) {
            renew(b, Sorts.SPARE, SPARE_FIGURE);
            spares--;
        }

        int twistIn(int b) {
            int took = trySeconds(hand, b);
            spend(took);
            hand = b;
            putSpare(b);
            return took;
        }

        static int trySeconds(int at, int b) {
            return TRY_SECONDS + Math.abs(at - b);
        }

        private void spend(int took) {
            seconds = Math.min(seconds + took, MOST_SECONDS);
        }

        static boolean divides(int divisor, int h) {
            return divisor > 0 && h % divisor == 0;
        }

        boolean leads(int b, int h) {
            switch (sort[b]) {
                case Sorts.LOOSE:
                    return isWhole(b) && isSeated(b);
                case Sorts.COLD:
                    return isWhole(b) && (worn[b] < 10 * figure[b] || divides(2, h));
                case Sorts.SHORTED:
                    return true;
                case Sorts.BLINKER:
                    return isWhole(b) && !divides(figure[b] + 2, h);
                default:
                    return isWhole(b);
            }
        }

        /** Whether bulbs from .. to less 1 all lead in hour h. */
        boolean allLead(int from, int to, int h) {
            for (int b = from; b < to; b++) {
                if (!leads(b, h)) {
                    return false;
                }
            }
            return true;
        }

        boolean burns(int h) {
            return bulbs > 0 && allLead(0, bulbs, h);
        }

        int wholeOnes(int from, int to) {
            int many = 0;
            for (int b = from; b < to; b++) {
                if (isWhole(b)) {
                    many++;
                }
            }
            return many;
        }

        /** Bulbs from .. to less 1 have burnt as a string, with its volts that many times. */
        private void wear(int from, int to, int times) {
            int many = wholeOnes(from, to);
            int volts = many > 0 ? 60 / many * times : 0;
            for (int b = from; b < to; b++) {
                if (!isWhole(b)) {
                    continue;
                }
                worn[b] = Math.min(worn[b] + Sorts.glow(sort[b], figure[b]) + volts, MOST_WORN);
                if (worn[b] >= lifeOf(b)) {
                    breakOrMend(b);
                }
            }
        }

        private void unseatLoose() {
            for (int b = 0; b < bulbs; b++) {
                if (sort[b] == Sorts.LOOSE && divides(figure[b] + 3, hour)) {
                    seated &= ~(1 << b);
                }
            }
        }

        /** An hour with its volts that many times: whether the string burnt in it. */
        boolean passHour(int times) {
            hour++;
            boolean burnt = bulbs > 0 && allLead(0, bulbs, hour);
            if (burnt) {
                lit = Math.min(lit + 1, MOST_LIT);
                wear(0, bulbs, times);
            }
            unseatLoose();
            return burnt;
        }

        /** n hours in mind, where the hour may pass its most. */
        void pass(int n) {
            for (int k = 0; k < n; k++) {
                passHour(1);
            }
        }

        /** n hours, or none of them, if they were too many: whether they passed. */
        boolean passes(int n) {
            if (n < 1 || n > HOURS_AHEAD || hour + n > MOST_HOUR) {
                return false;
            }
            // Not by pass: the calls of a text would go deeper than the language allows.
            for (int k = 0; k < n; k++) {
                passHour(1);
            }
            return true;
        }

        /** n hours, those with a bit in frosts with twice the volts. */
        void passFrosts(int n, int frosts) {
            for (int k = 0; k < n; k++) {
                passHour((frosts >> k & 1) == 1 ? 2 : 1);
            }
        }

        /** An hour of the string cut ahead of bulb k: the whole ones that shone in it. */
        int cutHour(int k) {
            hour++;
            int shone = partHour(0, k) + partHour(k, bulbs);
            unseatLoose();
            return shone;
        }

        private int partHour(int from, int to) {
            if (!allLead(from, to, hour)) {
                return 0;
            }
            int shone = wholeOnes(from, to);
            wear(from, to, 1);
            return shone;
        }

        int wornOfAll() {
            int all = 0;
            for (int b = 0; b < bulbs; b++) {
                all += worn[b];
            }
            return all;
        }

        int faults() {
            int found = 0;
            for (int b = 0; b < bulbs; b++) {
                if (!leads(b, hour + 1)) {
                    found |= 1 << b;
                }
            }
            return found;
        }

        int brown() {
            int found = 0;
            for (int b = 0; b < bulbs; b++) {
                if (isBrown(b)) {
                    found |= 1 << b;
                }
            }
            return found;
        }

        int weakest() {
            int found = NONE;
            int least = 0;
            for (int b = 0; b < bulbs; b++) {
                int left = lifeOf(b) - worn[b];
                if (isWhole(b) && (found == NONE || left < least)) {
                    found = b;
                    least = left;
                }
            }
            return found;
        }

        boolean canUse(int tool, int i, int j) {
            return tool >= 0 && tool <= MOST_TOOL && isStretch(i, j);
        }

        int toolSeconds(int tool, int i, int j) {
            int way = Math.abs(hand - i);
            switch (tool) {
                case LOOK:
                    return 2 + way;
                case KNOCK:
                    return 1 + way;
                case NEEDLE:
                    return 3 + (j - i) + way;
                case WIRE:
                    return Halving.wireSeconds(i, j) + way;
                default:
                    return trySeconds(hand, i);
            }
        }

        /** What a tool tells of the next hour, if all is as it is now. */
        private boolean tells(int tool, int i, int j) {
            int next = hour + 1;
            switch (tool) {
                case LOOK:
                    return isBrown(i);
                case KNOCK:
                    return allLead(0, bulbs, next);
                case NEEDLE:
                    return allLead(i, j + 1, next);
                case WIRE:
                    return allLead(0, i, next) && allLead(j + 1, bulbs, next);
                default:
                    return allLead(0, i, next) && allLead(i + 1, bulbs, next);
            }
        }

        boolean useTool(int tool, int i, int j) {
            spend(toolSeconds(tool, i, j));
            hand = tool == NEEDLE || tool == WIRE ? j : i;
            if (tool == KNOCK) {
                seated |= 1 << i;
            }
            return tells(tool, i, j);
        }

        /** Draws a figure for each bulb: the seed as it is then. */
        int drawFigures(int seed) {
            int z = seed;
            for (int b = 0; b < bulbs; b++) {
                z = z * 1103515245 + 12345;
                figure[b] = (z & GREATEST_INT) / 65536 % 10;
            }
            return z;
        }
    }

    /** A shelf with nothing, a bulb or a row on it; the row's cells are made once and used again. */
    static final class Shelf {
        static final int NOTHING = 0;
        static final int BULB = 1;
        static final int ROW = 2;
        static final int BYTES = 0;
        static final int SHORTS = 1;

        int holds = NOTHING;
        int sort;
        int figure;
        int kind;
        int size;
        final int[] cells = new int[MOST_ELEMENTS];

        void getNothing() {
            holds = NOTHING;
        }

        void getBulb(int newSort, int newFigure) {
            holds = BULB;
            sort = newSort;
            figure = newFigure;
        }

        void getRow(int newKind, int newSize) {
            holds = ROW;
            kind = newKind;
            size = newSize;
            for (int i = 0; i < MOST_ELEMENTS; i++) {
                cells[i] = 0;
            }
        }

        boolean hasPlace(int i) {
            return i >= 0 && i < size;
        }

        boolean hasStretch(int i, int n) {
            return n >= 0 && n <= size && i >= 0 && i <= size - n;
        }

        void set(int i, int v) {
            if (kind == BYTES) {
                cells[i] = (byte) v;
            } else if (kind == SHORTS) {
                cells[i] = (short) v;
            } else {
                cells[i] = v;
            }
        }

        /** Whether element i is the least number of the row's kind, which tells nothing. */
        boolean isSkipped(int i) {
            if (kind == BYTES) {
                return cells[i] == LEAST_BYTE;
            }
            return cells[i] == (kind == SHORTS ? LEAST_SHORT : LEAST_INT);
        }

        /** How many elements there are up to the last one that tells something. */
        int toldSize() {
            int told = 0;
            for (int i = 0; i < size; i++) {
                if (!isSkipped(i)) {
                    told = i + 1;
                }
            }
            return told;
        }
    }

    /** The text of a string: first whether it can be read at all, then statement by statement. */
    static final class Text {
        private static final int UNREADABLE = -1000;
        private static final int UNDOABLE = -2000;

        /** The text comes to the string: how many statements, or the fault. */
        static int comes(Shelf row, Lights string) {
            int wrong = firstWrong(row);
            if (wrong >= 0) {
                return UNREADABLE - wrong;
            }
            int statements = 0;
            int at = 0;
            while (at < row.size) {
                if (!isDone(row, at, string)) {
                    return UNDOABLE - at;
                }
                statements++;
                at = at + digitsBehind(row.cells[at]) + 2;
            }
            return statements;
        }

        /** How many digits stand behind a statement's letter, or 0 for no such letter. */
        private static int digitsBehind(int letter) {
            switch (letter) {
                case 'o':
                case 's':
                case 't':
                    return 1;
                case 'b':
                case 'h':
                    return 2;
                case 'u':
                    return 3;
                case 'w':
                    return 4;
                default:
                    return 0;
            }
        }

        /** The place of the first byte that can't stand there, or -1. */
        private static int firstWrong(Shelf row) {
            int at = 0;
            do {
                int digits = row.hasPlace(at) ? digitsBehind(row.cells[at]) : 0;
                if (digits == 0) {
                    return at;
                }
                at++;
                for (int k = 0; k < digits; k++) {
                    if (!isDigit(row, at)) {
                        return at;
                    }
                    at++;
                }
                if (!row.hasPlace(at) || row.cells[at] != ';') {
                    return at;
                }
                at++;
            } while (at < row.size);
            return -1;
        }

        private static boolean isDigit(Shelf row, int at) {
            return row.hasPlace(at) && row.cells[at] >= '0' && row.cells[at] <= '9';
        }

        /** The number of so many digits from a place on. */
        private static int number(Shelf row, int at, int digits) {
            int number = 0;
            for (int k = 0; k < digits; k++) {
                if (isDigit(row, at + k)) {
                    number = 10 * number + row.cells[at + k] - '0';
                }
            }
            return number;
        }

        /** Does the statement whose letter stands at a place: whether it could be done. */
        private static boolean isDone(Shelf row, int at, Lights string) {
            int first = number(row, at + 1, 1);
            int second = number(row, at + 2, 1);
            switch (row.cells[at]) {
                case 'b':
                    return isHung(string, first, second);
                case 's':
                    string.spares = first;
                    return true;
                case 'u':
                    int last = number(row, at + 3, 1);
                    if (!string.canUse(first, second, last)) {
                        return false;
                    }
                    string.useTool(first, second, last);
                    return true;
                case 'h':
                    return string.passes(number(row, at + 1, 2));
                default:
                    return string.has(first)
                            && isDoneTo(string, row.cells[at], first, number(row, at + 2, 3));
            }
        }

        private static boolean isHung(Lights string, int sort, int figure) {
            if (sort > MOST_SORT || string.isFull()) {
                return false;
            }
            string.hang(sort, figure);
            return true;
        }

        /** A statement on one bulb that is there: "w", "o" or "t". */
        private static boolean isDoneTo(Lights string, int letter, int b, int worn) {
            if (letter == 'w') {
                string.worn[b] = worn;
                return true;
            }
            if (letter == 'o') {
                string.breakOrMend(b);
                return true;
            }
            if (string.spares <= 0) {
                return false;
            }
            string.twistIn(b);
            return true;
        }
    }

    /** Questions of the hours to come; each lets hours pass in the string that it is given. */
    static final class Ahead {

        static int hoursTillOut(Lights mind, int b) {
            if (!mind.isWhole(b)) {
                return 0;
            }
            for (int k = 1; k <= HOURS_AHEAD; k++) {
                mind.passHour(1);
                if (!mind.isWhole(b)) {
                    return k;
                }
            }
            return NONE;
        }

        static int nextOut(Lights mind) {
            int wholeNow = mind.whole;
            for (int k = 0; k < HOURS_AHEAD; k++) {
                mind.passHour(1);
                int gone = wholeNow & ~mind.whole;
                if (gone != 0) {
                    return leastOf(gone);
                }
            }
            return NONE;
        }

        private static int leastOf(int set) {
            for (int b = 0; b < MOST_BULBS; b++) {
                if ((set >> b & 1) == 1) {
                    return b;
                }
            }
            return NONE;
        }

        static int firstDark(Lights mind) {
            for (int k = 1; k <= HOURS_AHEAD; k++) {
                if (!mind.passHour(1)) {
                    return k;
                }
            }
            return NONE;
        }

        static int longest(Lights mind) {
            int most = 0;
            int run = 0;
            for (int k = 0; k < HOURS_AHEAD; k++) {
                run = mind.passHour(1) ? run + 1 : 0;
                most = Math.max(most, run);
            }
            return most;
        }

        static int hoursBurnt(Lights mind, int n) {
            int burnt = 0;
            for (int k = 0; k < n; k++) {
                if (mind.passHour(1)) {
                    burnt++;
                }
            }
            return burnt;
        }

        /** Whether the string burns in each of n hours, if its spares go where one is out. */
        static boolean burnsWithSpares(Lights mind, int n) {
            for (int k = 0; k < n; k++) {
                for (int b = 0; b < mind.bulbs; b++) {
                    if (!mind.isWhole(b) && mind.spares > 0) {
                        mind.putSpare(b);
                    }
                }
                if (!mind.passHour(1)) {
                    return false;
                }
            }
            return true;
        }

        /** Whether bulb b is worn as a row tells, whose first element is of so many hours on. */
        static boolean wearsAsTold(Lights mind, int b, Shelf row, int firstHours) {
            mind.pass(firstHours);
            int told = row.toldSize();
            for (int i = 0; i < told; i++) {
                if (i > 0) {
                    mind.passHour(1);
                }
                if (!row.isSkipped(i) && row.cells[i] != mind.worn[b]) {
                    return false;
                }
            }
            return true;
        }

        /** The first element of a row that miscounts the whole ones that many hours on. */
        static int firstMiscount(Lights mind, Shelf row) {
            int told = row.toldSize();
            for (int i = 0; i < told; i++) {
                if (i > 0) {
                    mind.passHour(1);
                }
                if (!row.isSkipped(i) && row.cells[i] != Integer.bitCount(mind.whole)) {
                    return i;
                }
            }
            return NONE;
        }
    }

    /** How a stretch is halved by wires, from the shortest stretches up to the whole of it. */
    static final class Halving {
        // A stretch of one bulb costs nothing: its place is never written, and stays 0.
        private final int[] best = new int[MOST_BULBS * MOST_BULBS];

        static int wireSeconds(int i, int j) {
            return 6 + 2 * (j - i);
        }

        private int bestOf(int a, int b) {
            return best[a * MOST_BULBS + b];
        }

        private int worstByCut(int a, int b, int k) {
            return wireSeconds(a, k) + Math.max(bestOf(a, k), bestOf(k + 1, b));
        }

        private int worstOf(int a, int b) {
            int least = GREATEST_INT;
            for (int k = a; k < b; k++) {
                least = Math.min(least, worstByCut(a, b, k));
            }
            return least;
        }

        private int weighedOf(Lights string, int a, int b) {
            int odds = string.oddsOf(a, b);
            int least = GREATEST_INT;
            for (int k = a; k < b; k++) {
                int weighed = wireSeconds(a, k) * odds + bestOf(a, k) + bestOf(k + 1, b);
                least = Math.min(least, weighed);
            }
            return least;
        }

        int worst(int a, int b) {
            for (int length = 1; length <= b - a; length++) {
                for (int low = a; low + length <= b; low++) {
                    best[low * MOST_BULBS + low + length] = worstOf(low, low + length);
                }
            }
            return bestOf(a, b);
        }

        int cut(int a, int b) {
            int least = worst(a, b);
            for (int k = a; k < b; k++) {
                if (worstByCut(a, b, k) == least) {
                    return k;
                }
            }
            return NONE;
        }

        /** Seconds till each is found, times its odds, fewest together. */
        int weighed(Lights string, int a, int b) {
            for (int length = 1; length <= b - a; length++) {
                for (int low = a; low + length <= b; low++) {
                    best[low * MOST_BULBS + low + length] = weighedOf(string, low, low + length);
                }
            }
            return bestOf(a, b);
        }
    }

    /** In which order a spare is tried in bulbs of which one is out. */
    static final class Tries {

        static int seconds(Lights string, int set) {
            return fewest(string, set, string.hand, 0);
        }

        /** Fewest seconds till each of those left is found, times its odds, together. */
        private static int fewest(Lights string, int left, int at, int depth) {
            if (left == 0 || depth >= MOST_IN_ORDER) {
                return 0;
            }
            int least = GREATEST_INT;
            for (int b = 0; b < string.bulbs; b++) {
                if ((left >> b & 1) == 1) {
                    least = Math.min(least, fewestBy(string, left, at, b, depth));
                }
            }
            return least;
        }

        /** Likewise, if bulb b is tried first; all that are left wait while it is. */
        private static int fewestBy(Lights string, int left, int at, int b, int depth) {
            int waiting = 0;
            for (int other = 0; other < string.bulbs; other++) {
                if ((left >> other & 1) == 1) {
                    waiting += string.oddsOf(other);
                }
            }
            int behind = fewest(string, left & ~(1 << b), b, depth + 1);
            return Lights.trySeconds(at, b) * waiting + behind;
        }

        /** The best order as a 1 and a digit for each bulb. */
        static int number(Lights string, int set) {
            int number = 1;
            int left = set;
            int at = string.hand;
            for (int depth = 0; depth < MOST_IN_ORDER && left != 0; depth++) {
                at = firstBest(string, left, at, depth);
                left &= ~(1 << at);
                number = 10 * number + at;
            }
            return number;
        }

        private static int firstBest(Lights string, int left, int at, int depth) {
            int found = 0;
            int least = GREATEST_INT;
            for (int b = 0; b < string.bulbs; b++) {
                if ((left >> b & 1) == 0) {
                    continue;
                }
                int seconds = fewestBy(string, left, at, b, depth);
                if (seconds < least) {
                    found = b;
                    least = seconds;
                }
            }
            return found;
        }
    }

    /** What wires told, in a row of threes: from, to, and 1 if all but these led. */
    static final class Wires {

        static boolean areTold(Shelf row, Lights string) {
            if (row.size % 3 != 0) {
                return false;
            }
            for (int at = 0; at + 2 < row.size; at += 3) {
                if (!string.isStretch(row.cells[at], row.cells[at + 1])) {
                    return false;
                }
            }
            return true;
        }

        static int ones(Shelf row, int bulbs) {
            int found = 0;
            for (int b = 0; b < bulbs; b++) {
                if (isSo(row, b, b)) {
                    found |= 1 << b;
                }
            }
            return found;
        }

        static int twos(Shelf row, int bulbs) {
            int many = 0;
            for (int low = 0; low < bulbs; low++) {
                for (int high = low + 1; high < bulbs; high++) {
                    if (isSo(row, low, high)) {
                        many++;
                    }
                }
            }
            return many;
        }

        /** Whether all of the row is so, if just the bulbs low and high do not lead. */
        private static boolean isSo(Shelf row, int low, int high) {
            for (int at = 0; at + 2 < row.size; at += 3) {
                boolean told = row.cells[at + 2] == 1;
                boolean across = row.cells[at] <= low && high <= row.cells[at + 1];
                if (told != across) {
                    return false;
                }
            }
            return true;
        }
    }

    /** Fractions in least terms. */
    static final class Odds {
        // Euclid's steps on longs are fewer than this.
        private static final int MOST_STEPS = 100;

        static long power(long base, int n) {
            long power = 1;
            for (int k = 0; k < n; k++) {
                power *= base;
            }
            return power;
        }

        private static long commonDivisor(long a, long b) {
            long greater = a;
            long less = b;
            for (int k = 0; k < MOST_STEPS && less != 0; k++) {
                long rest = greater % less;
                greater = less;
                less = rest;
            }
            return greater;
        }

        /** What stands above (part 0) or below (1) the line; 0 by 1, if nothing stands below. */
        static long leastTerms(long above, long below, int part) {
            long divisor = commonDivisor(above, below);
            if (below == 0 || divisor == 0) {
                return part;
            }
            return part == 0 ? above / divisor : below / divisor;
        }
    }
}
