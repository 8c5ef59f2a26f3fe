/** Edges of promises 36 to 42: shelves. */
final class EdgesOfShelves extends Edges {

    // ---- 36: keep

    // Promise 36: "SHELF d gets: what = 0 nothing (the others do not matter); 1 a BULB of SORT k with a FIGURE: 0. -1."
    static void p36NoSuchShelf() {
        for (int d : outside(0, 7)) {
            refused(-1, "keep(" + d + ", 0, 0, 0)", Edges::rich, x -> x.keep(d, 0, 0, 0));
            refused(-1, "keep(" + d + ", 1, 0, 0)", Edges::rich, x -> x.keep(d, 1, 0, 0));
        }
    }

    // Promise 36: "-1 no such one, one twice, a number out of its range"
    static void p36NoSuchWhat() {
        for (int what : outside(0, 1)) {
            refused(-1, "keep(1, " + what + ", 0, 0)", Edges::rich, x -> x.keep(1, what, 0, 0));
        }
    }

    // Promise 36: "what = 0 nothing (the others do not matter)"
    static void p36TheOthersDoNotMatter() {
        for (int d = 0; d < 8; d++) {
            OneIsOut x = rich();
            due("nothing", x.keep(d, 0, d % 2 == 0 ? MIN : 8, d % 2 == 0 ? -1 : MAX), 0);
            due("cost", x.cost(d), -11);
            due("forged", x.forged(d), -11);
        }
    }

    // Promise 36: "1 a BULB of SORT k with a FIGURE: 0. -1."
    static void p36NoSuchSortOrFigure() {
        for (int d = 1; d <= 4; d++) {
            int shelf = d;
            for (int k : outside(0, 7)) {
                refused(-1, "keep(" + d + ", 1, " + k + ", 0)", Edges::rich, x -> x.keep(shelf, 1, k, 0));
            }
            for (int figure : outside(0, 9)) {
                refused(-1, "keep(" + d + ", 1, 0, " + figure + ")", Edges::rich, x -> x.keep(shelf, 1, 0, figure));
            }
        }
    }

    // Promise 36: "SHELVES 0 .. 7 each hold nothing (at first), a BULB, a ROW."
    static void p36TheFirstAndTheLastOfAll() {
        OneIsOut x = new OneIsOut();
        due("the first", x.keep(0, 1, 0, 0), 0);
        due("the last", x.keep(7, 1, 7, 9), 0);
        due("cost of the first", x.cost(0), 0);
        due("cost of the last", x.cost(7), 19);
        x.hangs(0);
        x.hangs(7);
        due("sort", x.bulb(0, 0), 0);
        due("figure", x.bulb(0, 1), 0);
        due("sort", x.bulb(1, 0), 7);
        due("figure", x.bulb(1, 1), 9);
        due("where a row was", fill(x, 0, 2, 5).keep(0, 1, 4, 9), 0);
        due("no row more", thrown(x, 0, 0), 2);
        due("a bulb", x.cost(0), 7);
    }

    // Promise 36: "SHELVES 0 .. 7 each hold nothing (at first), a BULB, a ROW."
    static void p36WhatTheShelfHeldBeforeIsGone() {
        OneIsOut x = fill(of("09"), 0, 0, 'b', '0', '0', ';');
        x.row(1, 0, 4);
        int[] answers = {-12, -11};
        for (int k = 0; k < 2; k++) {
            due("keep", x.keep(0, 1 - k, 0, 5), 0);
            due("string", x.string(0), answers[k]);
            due("suspects", x.suspects(0, 0), answers[k]);
            due("whatIs", x.whatIs(0, 0, 0), answers[k]);
            due("wornFrom", x.wornFrom(0, 0, 0), answers[k]);
            due("forged", x.forged(0), answers[k]);
            due("judge", x.judge(0), answers[k]);
            due("put", x.put(0, 0, 0), answers[k]);
            due("put", x.put(0, 4, 0), answers[k]);
            due("element", thrown(x, 0, 0), 2);
            due("copy from", x.copy(0, 0, 1, 0, 1), answers[k]);
            due("copy to", x.copy(1, 0, 0, 0, 1), answers[k]);
            due("cost", x.cost(0), k == 0 ? 5 : -11);
            due("toss", x.toss(0), k == 0 ? 5 : -11);
        }
    }

    // ---- 37: row

    // Promise 37: "-1 (n above 100); -14."
    static void p37NoSuchShelfOrKind() {
        for (int d : outside(0, 7)) {
            refused(-1, "row(" + d + ", 0, 0)", Edges::rich, x -> x.row(d, 0, 0));
        }
        for (int sort : outside(0, 2)) {
            refused(-1, "row(3, " + sort + ", 0)", Edges::rich, x -> x.row(3, sort, 0));
        }
    }

    // Promise 37: "-1 (n above 100); -14."
    static void p37TooMany() {
        for (int n : new int[] {101, 102, MAX}) {
            for (int d = 0; d <= 4; d++) {
                int shelf = d;
                refused(-1, "row(" + d + ", 0, " + n + ")", Edges::rich, x -> x.row(shelf, 0, n));
            }
        }
    }

    // Promise 37: "-14 a size below 0"
    static void p37BelowNone() {
        for (int n : new int[] {-1, -2, MIN}) {
            for (int d = 0; d <= 4; d++) {
                int shelf = d;
                refused(-14, "row(" + d + ", 2, " + n + ")", Edges::rich, x -> x.row(shelf, 2, n));
            }
        }
    }

    // Promise 37: "Answers of several REFUSALS are the first one as they are told at the call."
    static void p37NoSuchOneAheadOfASizeBelowNone() {
        for (int wrong : outside(0, 7)) {
            refused(-1, "row(" + wrong + ", 0, -1)", Edges::rich, x -> x.row(wrong, 0, -1));
            refused(-1, "row(3, " + wrong + ", -1)", Edges::rich, x -> x.row(3, wrong, -1));
            refused(-1, "row(" + wrong + ", 3, " + MIN + ")", Edges::rich, x -> x.row(wrong, 3, MIN));
        }
    }

    // Promise 37: "A ROW has a kind (0 bytes, 1 shorts, 2 ints) and 0 .. 100 elements, 0 at first"
    static void p37NoneAndAHundred() {
        for (int kind = 0; kind < 3; kind++) {
            OneIsOut x = new OneIsOut();
            due("none", x.row(0, kind, 0), 0);
            due("no first", thrown(x, 0, 0), 2);
            due("a row", x.forged(0), -4);
            due("one", x.row(0, kind, 1), 0);
            due("the first", x.element(0, 0), 0);
            due("no second", thrown(x, 0, 1), 2);
            due("a hundred", x.row(7, kind, 100), 0);
            for (int i = 0; i < 100; i++) {
                due("element " + i, x.element(7, i), 0);
            }
            due("no more", thrown(x, 7, 100), 2);
        }
    }

    // Promise 37: "0 .. 100 elements, 0 at first"
    static void p37NothingIsLeftOfTheOneBefore() {
        OneIsOut x = fill(new OneIsOut(), 0, 2, same(100, -7));
        due("a hundred", x.row(0, 1, 100), 0);
        for (int i = 0; i < 100; i++) {
            due("element " + i, x.element(0, i), 0);
        }
        due("fewer", fill(x, 1, 2, 1, 2, 3).row(1, 2, 2), 0);
        due("more", x.row(1, 2, 3), 0);
        for (int i = 0; i < 3; i++) {
            due("element " + i, x.element(1, i), 0);
        }
        due("where a bulb was", rich().row(1, 0, 100), 0);
        OneIsOut y = rich();
        y.row(1, 0, 1);
        due("no bulb more", y.cost(1), -12);
    }

    // ---- 38: put

    // Promise 38: "-1, -11, -12, -13."
    static void p38NoSuchShelf() {
        for (int d : outside(0, 7)) {
            refused(-1, "put(" + d + ", 0, 0)", Edges::rich, x -> x.put(d, 0, 0));
            refused(-1, "put(" + d + ", -1, 0)", Edges::rich, x -> x.put(d, -1, 0));
        }
    }

    // Promise 38: "-11 nothing is held where something is wanted; -12 it is of another kind"
    static void p38NothingAndABulb() {
        for (int i : new int[] {0, -1, 100, MIN, MAX}) {
            refused(-11, "put(4, " + i + ", 0)", Edges::rich, x -> x.put(4, i, 0));
            refused(-12, "put(1, " + i + ", 0)", Edges::rich, x -> x.put(1, i, 0));
        }
    }

    // Promise 38: "-13 a place that isn't there"
    static void p38NoSuchPlace() {
        for (int i : outside(0, 2)) {
            refused(-13, "put(2, " + i + ", 9)", Edges::rich, x -> x.put(2, i, 9));
            refused(-13, "put(3, " + i + ", 9)", Edges::rich, x -> x.put(3, i, 9));
        }
        for (int i : new int[] {0, 1, -1, MIN, MAX}) {
            refused(-13, "put(5, " + i + ", 9)", Edges::rich, x -> x.put(5, i, 9));
        }
        for (int i : outside(0, 99)) {
            OneIsOut x = new OneIsOut();
            x.row(0, 0, 100);
            due("put(0, " + i + ", 9) of a hundred", x.put(0, i, 9), -13);
        }
    }

    // Promise 38: "Element i of the ROW becomes v: 0."
    static void p38TheFirstAndTheLastPlace() {
        OneIsOut x = new OneIsOut();
        x.row(7, 0, 100);
        due("the first", x.put(7, 0, 1), 0);
        due("the last", x.put(7, 99, 2), 0);
        due("element 0", x.element(7, 0), 1);
        due("element 1", x.element(7, 1), 0);
        due("element 98", x.element(7, 98), 0);
        due("element 99", x.element(7, 99), 2);
    }

    // Promise 38: "what is put in keeps its lowest bits"
    static void p38LowestBits() {
        int[] put = {127, 128, -128, -129, 255, 256, 32767, 32768, -32768, -32769, 65535, 65536, MAX, MIN};
        int[] bytes = {127, -128, -128, 127, -1, 0, -1, 0, 0, -1, -1, 0, -1, 0};
        int[] shorts = {127, 128, -128, -129, 255, 256, 32767, -32768, -32768, 32767, -1, 0, -1, 0};
        for (int k = 0; k < put.length; k++) {
            due("byte " + put[k], fill(new OneIsOut(), 0, 0, put[k]).element(0, 0), bytes[k]);
            due("short " + put[k], fill(new OneIsOut(), 0, 1, put[k]).element(0, 0), shorts[k]);
            due("int " + put[k], fill(new OneIsOut(), 0, 2, put[k]).element(0, 0), put[k]);
        }
    }

    // ---- 39: element

    // Promise 39: "IllegalArgumentException: no such SHELF"
    static void p39NoSuchShelf() {
        for (int d : outside(0, 7)) {
            for (int i : new int[] {0, -1, 100}) {
                refused(1, "element(" + d + ", " + i + ")", Edges::rich, x -> thrown(x, d, i));
            }
        }
    }

    // Promise 39: "IllegalStateException: no ROW, no such place"
    static void p39NoRow() {
        for (int d : new int[] {1, 4, 6, 7}) {
            for (int i : new int[] {0, -1, 100, MIN, MAX}) {
                refused(2, "element(" + d + ", " + i + ")", Edges::rich, x -> thrown(x, d, i));
            }
        }
    }

    // Promise 39: "IllegalStateException: no ROW, no such place"
    static void p39NoSuchPlace() {
        for (int i : outside(0, 2)) {
            refused(2, "element(2, " + i + ")", Edges::rich, x -> thrown(x, 2, i));
            refused(2, "element(3, " + i + ")", Edges::rich, x -> thrown(x, 3, i));
        }
        for (int i : new int[] {0, 1, -1, MIN, MAX}) {
            refused(2, "element(5, " + i + ")", Edges::rich, x -> thrown(x, 5, i));
        }
        OneIsOut x = new OneIsOut();
        x.row(0, 0, 100);
        due("99", thrown(x, 0, 99), 0);
        due("100", thrown(x, 0, 100), 2);
        due("-1", thrown(x, 0, -1), 2);
    }

    // Promise 39: "Element i of the ROW."
    static void p39TheFirstAndTheLast() {
        OneIsOut x = fill(new OneIsOut(), 7, 2, MIN, 0, MAX);
        due("the first", x.element(7, 0), MIN);
        due("the last", x.element(7, 2), MAX);
        OneIsOut left = fill(new OneIsOut(), 0, 2, 1, 2, 3);
        left.row(0, 2, 2);
        due("what a longer row had is not there", thrown(left, 0, 2), 2);
    }

    // ---- 40: copy

    /** Shelves 0 and 1 with five bytes each, 2 with three shorts, 3 a bulb, 4 nothing, 5 bytes, none of them. */
    private static OneIsOut rows() {
        OneIsOut x = fill(new OneIsOut(), 0, 0, 1, 2, 3, 4, 5);
        fill(x, 1, 0, 11, 12, 13, 14, 15);
        fill(x, 2, 1, 21, 22, 23);
        x.keep(3, 1, 0, 5);
        x.row(5, 0, 0);
        fill(x, 6, 2, 61, 62, 63);
        return x;
    }

    // Promise 40: "-1, -11 (either), -12 (no ROWS of one kind), -13 (n below 0, too)."
    static void p40NoSuchShelf() {
        for (int wrong : outside(0, 7)) {
            for (int d : new int[] {0, 2, 3, 4, wrong}) {
                refused(-1, "copy(" + wrong + ", 0, " + d + ", 0, -1)", EdgesOfShelves::rows,
                        x -> x.copy(wrong, 0, d, 0, -1));
                refused(-1, "copy(" + d + ", 0, " + wrong + ", 0, 1)", EdgesOfShelves::rows,
                        x -> x.copy(d, 0, wrong, 0, 1));
            }
        }
    }

    // Promise 40: "-11 (either)"
    static void p40NothingOnEither() {
        for (int d : new int[] {0, 2, 3, 4}) {
            refused(-11, "copy(4, 0, " + d + ", 0, 1)", EdgesOfShelves::rows, x -> x.copy(4, 0, d, 0, 1));
            refused(-11, "copy(" + d + ", 0, 4, 0, 1)", EdgesOfShelves::rows, x -> x.copy(d, 0, 4, 0, 1));
            refused(-11, "copy(4, -1, " + d + ", -1, -1)", EdgesOfShelves::rows, x -> x.copy(4, -1, d, -1, -1));
            refused(-11, "copy(" + d + ", -1, 4, -1, -1)", EdgesOfShelves::rows, x -> x.copy(d, -1, 4, -1, -1));
        }
    }

    // Promise 40: "-12 (no ROWS of one kind)"
    static void p40NoRowsOfOneKind() {
        int[][] pairs = {{0, 3}, {3, 0}, {3, 3}, {0, 2}, {2, 0}, {0, 6}, {6, 0}, {2, 6}, {6, 2}, {5, 2}, {3, 2}};
        for (int[] pair : pairs) {
            String call = "copy(" + pair[0] + " to " + pair[1] + ")";
            refused(-12, call, EdgesOfShelves::rows, x -> x.copy(pair[0], 0, pair[1], 0, 0));
            refused(-12, call + " of 1", EdgesOfShelves::rows, x -> x.copy(pair[0], 0, pair[1], 0, 1));
            refused(-12, call + " of -1", EdgesOfShelves::rows, x -> x.copy(pair[0], -1, pair[1], 100, -1));
        }
    }

    // Promise 40: "-13 (n below 0, too)"
    static void p40BelowNone() {
        for (int n : new int[] {-1, -2, MIN}) {
            refused(-13, "n " + n, EdgesOfShelves::rows, x -> x.copy(0, 0, 1, 0, n));
            refused(-13, "n " + n + " from 2", EdgesOfShelves::rows, x -> x.copy(0, 2, 1, 2, n));
        }
    }

    // Promise 40: "-13 a place that isn't there"
    static void p40NoSuchPlace() {
        int[][] wrong = {
            {-1, 0, 1}, {0, -1, 1}, {5, 0, 1}, {0, 5, 1}, {0, 0, 6}, {1, 0, 5}, {0, 1, 5}, {4, 0, 2}, {0, 4, 2},
            {MIN, 0, 1}, {0, MIN, 1}, {MAX, 0, 1}, {0, MAX, 1}, {0, 0, MAX}, {1, 1, MAX}, {MAX, MAX, MAX}, {-1, 0, 0},
            {0, -1, 0}, {6, 0, 0}, {0, 6, 0}, {-1, 0, 2}, {0, -1, 6}, {-5, 0, 5},
        };
        for (int[] w : wrong) {
            refused(-13, "copy(0, " + w[0] + ", 1, " + w[1] + ", " + w[2] + ")", EdgesOfShelves::rows,
                    x -> x.copy(0, w[0], 1, w[1], w[2]));
        }
        refused(-13, "from none", EdgesOfShelves::rows, x -> x.copy(5, 0, 0, 0, 1));
        refused(-13, "to none", EdgesOfShelves::rows, x -> x.copy(0, 0, 5, 0, 1));
    }

    // Promise 40: "n elements of the ROW in SHELF d from i on come to that in SHELF e from j on: n."
    static void p40NoneAndAll() {
        inMind(0, "none", EdgesOfShelves::rows, x -> x.copy(0, 0, 1, 0, 0));
        inMind(0, "none of none", EdgesOfShelves::rows, x -> x.copy(5, 0, 5, 0, 0));
        inMind(0, "none of the last", EdgesOfShelves::rows, x -> x.copy(0, 4, 1, 4, 0));
        OneIsOut x = rows();
        due("all", x.copy(0, 0, 1, 0, 5), 5);
        elements(x, 1, 1, 2, 3, 4, 5);
        elements(x, 0, 1, 2, 3, 4, 5);
        OneIsOut y = rows();
        due("the last to the first", y.copy(0, 4, 1, 0, 1), 1);
        elements(y, 1, 5, 12, 13, 14, 15);
        due("the first to the last", y.copy(0, 0, 1, 4, 1), 1);
        elements(y, 1, 5, 12, 13, 14, 1);
        due("the last two to the last two", y.copy(0, 3, 1, 3, 2), 2);
        elements(y, 1, 5, 12, 13, 4, 5);
    }

    private static void elements(OneIsOut x, int d, int... wants) {
        for (int i = 0; i < wants.length; i++) {
            due("element " + i, x.element(d, i), wants[i]);
        }
        due("no more", thrown(x, d, wants.length), 2);
    }

    // Promise 40: "n elements of the ROW in SHELF d from i on come to that in SHELF e from j on"
    static void p40WithinOneRow() {
        OneIsOut up = rows();
        due("up", up.copy(0, 0, 0, 1, 4), 4);
        elements(up, 0, 1, 1, 2, 3, 4);
        OneIsOut down = rows();
        due("down", down.copy(0, 1, 0, 0, 4), 4);
        elements(down, 0, 2, 3, 4, 5, 5);
        inMind(5, "onto itself", EdgesOfShelves::rows, x -> x.copy(0, 0, 0, 0, 5));
    }

    // Promise 40: "0 .. 100 elements"
    static void p40AHundred() {
        OneIsOut x = fill(new OneIsOut(), 0, 2, same(100, MIN));
        x.row(7, 2, 100);
        due("101", x.copy(0, 0, 7, 0, 101), -13);
        due("100 from 1", x.copy(0, 1, 7, 0, 100), -13);
        due("100", x.copy(0, 0, 7, 0, 100), 100);
        for (int i = 0; i < 100; i++) {
            due("element " + i, x.element(7, i), MIN);
        }
    }

    // ---- 41: cost

    // Promise 41: "-1, -11, -12 (a ROW)."
    static void p41NoSuchShelf() {
        for (int d : outside(0, 7)) {
            refused(-1, "cost(" + d + ")", Edges::rich, x -> x.cost(d));
        }
    }

    // Promise 41: "-11, -12 (a ROW)."
    static void p41NothingAndARow() {
        refused(-11, "cost(4)", Edges::rich, x -> x.cost(4));
        refused(-11, "cost(7)", Edges::rich, x -> x.cost(7));
        for (int d : new int[] {0, 2, 3, 5}) {
            refused(-12, "cost(" + d + ")", Edges::rich, x -> x.cost(d));
        }
    }

    // Promise 41: "BULB FIGURE; LOOSE 1; COLD 2 more than a BULB; SHORTED 0; BLINKER 7; PAINTED twice a BULB's; SPARE 3;
    // LAST 1 more than a PAINTED one."
    static void p41OfTheLeastAndTheMostFigure() {
        int[] least = {0, 1, 2, 0, 7, 0, 3, 1};
        int[] most = {9, 1, 11, 0, 7, 18, 3, 19};
        for (int sort = 0; sort < 8; sort++) {
            int k = sort;
            inMind(least[k], "cost of " + k + "0", () -> on(7, k, 0), x -> x.cost(7));
            inMind(most[k], "cost of " + k + "9", () -> on(0, k, 9), x -> x.cost(0));
        }
    }

    private static OneIsOut on(int d, int sort, int figure) {
        OneIsOut x = new OneIsOut();
        x.keep(d, 1, sort, figure);
        return x;
    }

    // ---- 42: toss

    // Promise 42: "-1, -11, -12 (a ROW); -15: COLD, SHORTED and SPARE ones, and any with FIGURE 0, have none."
    static void p42NoSuchShelf() {
        for (int d : outside(0, 7)) {
            refused(-1, "toss(" + d + ")", Edges::rich, x -> x.toss(d));
        }
    }

    // Promise 42: "-1, -11, -12 (a ROW)"
    static void p42NothingAndARow() {
        refused(-11, "toss(4)", Edges::rich, x -> x.toss(4));
        refused(-11, "toss(7)", Edges::rich, x -> x.toss(7));
        for (int d : new int[] {0, 2, 3, 5}) {
            refused(-12, "toss(" + d + ")", Edges::rich, x -> x.toss(d));
        }
    }

    // Promise 42: "any with FIGURE 0, have none."
    static void p42OfFigureNone() {
        for (int sort = 0; sort < 8; sort++) {
            int k = sort;
            refused(-15, "toss of " + k + "0", () -> on(3, k, 0), x -> x.toss(3));
        }
    }

    // Promise 42: "-15: COLD, SHORTED and SPARE ones"
    static void p42ThoseThatHaveNone() {
        for (int figure = 1; figure <= 9; figure++) {
            for (int sort : new int[] {2, 3, 6}) {
                due("toss of " + sort + figure, on(3, sort, figure).toss(3), -15);
            }
        }
    }

    // Promise 42: "its FIGURE; of BLINKERS 100 more; of PAINTED ones (LAST ones too) 200 plus what they COST, in place of
    // all that (FIGURE, too)."
    static void p42OfTheLeastAndTheMostFigure() {
        int[] sorts = {0, 1, 4, 5, 7};
        int[] least = {1, 1, 101, 202, 203};
        int[] most = {9, 9, 109, 218, 219};
        for (int k = 0; k < sorts.length; k++) {
            int at = k;
            inMind(least[k], "toss of " + sorts[k] + "1", () -> on(0, sorts[at], 1), x -> x.toss(0));
            inMind(most[k], "toss of " + sorts[k] + "9", () -> on(7, sorts[at], 9), x -> x.toss(7));
        }
    }

    // Promise 42: "The FAILURE of the one on SHELF d is thrown, and caught"
    static void p42AgainAndAgain() {
        OneIsOut x = on(0, 4, 9);
        for (int k = 0; k < 500; k++) {
            due("toss", x.toss(0), 109);
        }
        due("it stays", x.cost(0), 7);
    }
}
