/** Edges of promises 30 to 35: told boxes, winters by seeds, the image, what is told. */
final class EdgesOfBoxes extends Edges {

    // ---- 30: forged

    // Promise 30: "-4. -1, -11, -12."
    static void p30NoSuchShelf() {
        for (int d : outside(0, 7)) {
            refused(-1, "forged(" + d + ")", Edges::rich, x -> x.forged(d));
        }
    }

    // Promise 30: "-11 nothing is held where something is wanted; -12 it is of another kind"
    static void p30NothingAndABulb() {
        refused(-11, "forged(4)", Edges::rich, x -> x.forged(4));
        refused(-11, "forged(7)", Edges::rich, x -> x.forged(7));
        refused(-12, "forged(1)", Edges::rich, x -> x.forged(1));
        refused(-12, "forged(6)", Edges::rich, x -> x.forged(6));
    }

    // Promise 30: "FORGED: a ROW tells SORTS of BULBS 0, 1, ..: the first that is not so (no such BULB, too); -4."
    static void p30NothingTold() {
        for (int kind = 0; kind < 3; kind++) {
            due("of none", fill(new OneIsOut(), 0, kind).forged(0), -4);
            due("of ten", fill(of(TEN), 0, kind).forged(0), -4);
        }
        inMind(-4, "forged(5)", Edges::rich, x -> x.forged(5));
    }

    // Promise 30: "(no such BULB, too)"
    static void p30NoSuchBulb() {
        for (int kind = 0; kind < 3; kind++) {
            due("of none", fill(new OneIsOut(), 0, kind, 0).forged(0), 0);
            due("of one", fill(of("00"), 0, kind, 0, 0).forged(0), 1);
            due("ten of ten", fill(of(TEN), 0, kind, same(10, 0)).forged(0), -4);
            due("eleven of ten", fill(of(TEN), 0, kind, same(11, 0)).forged(0), 10);
            due("a hundred of ten", fill(of(TEN), 0, kind, same(100, 0)).forged(0), 10);
            due("one of ten", fill(of(TEN), 0, kind, 0).forged(0), -4);
        }
    }

    // Promise 30: "the first that is not so"
    static void p30TheFirstAndTheLast() {
        for (int kind = 0; kind < 3; kind++) {
            OneIsOut x = of("00 11 22 33 44 55 66 77 08 19");
            due("all so", fill(x, 0, kind, 0, 1, 2, 3, 4, 5, 6, 7, 0, 1).forged(0), -4);
            due("the first", fill(x, 0, kind, 1, 1, 2, 3, 4, 5, 6, 7, 0, 0).forged(0), 0);
            due("the last", fill(x, 0, kind, 0, 1, 2, 3, 4, 5, 6, 7, 0, 0).forged(0), 9);
            due("no sort 8", fill(x, 0, kind, 0, 1, 2, 3, 4, 5, 6, 8).forged(0), 7);
            due("no sort -1", fill(x, 0, kind, -1).forged(0), 0);
            due("the least number is not skipped", fill(x, 0, kind, 0, LEAST[kind]).forged(0), 1);
        }
    }

    // ---- 31: judge

    // Promise 31: "-4. -1, -11, -12."
    static void p31NoSuchShelf() {
        for (int d : outside(0, 7)) {
            refused(-1, "judge(" + d + ")", Edges::rich, x -> x.judge(d));
        }
    }

    // Promise 31: "-11 nothing is held where something is wanted; -12 it is of another kind"
    static void p31NothingAndABulb() {
        refused(-11, "judge(4)", Edges::rich, x -> x.judge(4));
        refused(-11, "judge(7)", Edges::rich, x -> x.judge(7));
        refused(-12, "judge(1)", Edges::rich, x -> x.judge(1));
        refused(-12, "judge(6)", Edges::rich, x -> x.judge(6));
    }

    // Promise 31: "JUDGED: a ROW tells how many are WHOLE behind 0, 1, .. HOURS: the first that is not so"
    static void p31NothingTold() {
        for (int kind = 0; kind < 3; kind++) {
            due("of none", fill(new OneIsOut(), 0, kind).judge(0), -4);
            due("of ten", fill(of(TEN), 0, kind).judge(0), -4);
        }
        inMind(-4, "judge(5)", Edges::rich, x -> x.judge(5));
    }

    // Promise 31: "the first that is not so"
    static void p31TheFirstAndTheLast() {
        for (int kind = 0; kind < 3; kind++) {
            // 34 and 34 an hour: 70 behind three, 150 behind five; then it is dark.
            due("all so", fill(of("01 09"), 0, kind, 2, 2, 2, 1, 1).judge(0), -4);
            due("now", fill(of("01 09"), 0, kind, 1, 2, 2, 1, 1).judge(0), 0);
            due("one hour", fill(of("01 09"), 0, kind, 2, 1).judge(0), 1);
            due("the hour in which it goes out", fill(of("01 09"), 0, kind, 2, 2, 2, 2).judge(0), 3);
            due("an hour early", fill(of("01 09"), 0, kind, 2, 2, 1).judge(0), 2);
            due("none of none", fill(new OneIsOut(), 0, kind, 0, 0, 0).judge(0), -4);
            due("one of none", fill(new OneIsOut(), 0, kind, 0, 0, 1).judge(0), 2);
            due("-1", fill(of("09"), 0, kind, -1).judge(0), 0);
            due("ten", fill(of(TEN), 0, kind, 10).judge(0), -4);
            due("eleven", fill(of(TEN), 0, kind, 11).judge(0), 0);
        }
    }

    // Promise 31: "(skipped likewise)"
    static void p31TheLeastNumberIsSkipped() {
        for (int kind = 0; kind < 3; kind++) {
            int least = LEAST[kind];
            due("now", fill(of("01 09"), 0, kind, least, 2).judge(0), -4);
            due("all", fill(of("01 09"), 0, kind, least, least).judge(0), -4);
            due("between", fill(of("01 09"), 0, kind, 2, least, least, 1, least, 2).judge(0), 5);
            due("one above it", fill(of("01 09"), 0, kind, 2, least + 1).judge(0), 1);
            due("the greatest", fill(of("01 09"), 0, kind, 2, -(least + 1)).judge(0), 1);
        }
    }

    // Promise 31: "0 .. 100 elements"
    static void p31BehindNinetyNineHours() {
        int[] told = same(100, -128);
        told[99] = 2;
        due("so", fill(at(999, "30 30"), 0, 0, told).judge(0), 99);
        told[99] = 0;
        due("none is WHOLE", fill(at(999, "30 30"), 0, 0, told).judge(0), -4);
        int[] shorted = same(100, 10);
        // 6 an hour: 150 behind 25.
        due("ten till then", fill(of("39 39 39 39 39 39 39 39 39 39"), 0, 0, shorted).judge(0), 25);
    }

    // Promise 31: "(HOUR may pass 999 there)"
    static void p31TheHourMayPass999() {
        inMind(2, "judge(0)", () -> fill(at(999, "40"), 0, 0, 1, 1, 1), x -> x.judge(0));
        inMind(-4, "judge(0)", () -> fill(at(999, "40"), 0, 0, 1, 1, 0), x -> x.judge(0));
    }

    // ---- 32: winters

    // Promise 32: "n (1 .. 20), each from now"
    static void p32TooFewAndTooMany() {
        for (int n : outside(1, 20)) {
            refused(-1, "winters(" + n + ", 1, 0)", Edges::rich, x -> x.winters(n, 1, 0));
            refused(-1, "winters(" + n + ", 1, 1)", Edges::rich, x -> x.winters(n, 1, 1));
            due("winters(" + n + ", 1, 0) of none", new OneIsOut().winters(n, 1, 0), -1);
        }
    }

    // Promise 32: "-1 no such one, one twice, a number out of its range"
    static void p32NoSuchWhat() {
        for (int what : outside(0, 1)) {
            refused(-1, "winters(1, 1, " + what + ")", Edges::rich, x -> x.winters(1, 1, what));
            refused(-1, "winters(20, 1, " + what + ")", Edges::rich, x -> x.winters(20, 1, what));
        }
    }

    // Promise 32: "n (1 .. 20), each from now: FIGURE of each BULB, by numbers, a DRAW below 10; then 20 HOURS: LIT more,
    // together; OUT ones, together."
    static void p32OneAndTwenty() {
        OneIsOut forEver = out(of("30"), 0);
        due("20 hours", forEver.winters(1, 5, 0), 20);
        due("20 by 20", forEver.winters(20, 5, 0), 400);
        due("one OUT", forEver.winters(1, 5, 1), 1);
        due("twenty", forEver.winters(20, 5, 1), 20);
        OneIsOut never = out(of(TEN), 0, 1, 2, 3, 4, 5, 6, 7, 8, 9);
        due("dark", never.winters(20, 5, 0), 0);
        due("ten by 20", never.winters(20, 5, 1), 200);
        for (int what = 0; what <= 1; what++) {
            due("none of none", new OneIsOut().winters(1, 5, what), 0);
            due("none of none", new OneIsOut().winters(20, 5, what), 0);
        }
    }

    // Promise 32: "z becomes z times 1103515245 plus 12345 (an int); (z without its sign's bit over 65536, cut) modulo n"
    static void p32SeedsAtTheEndsOfTheInts() {
        // One alone by 64 an hour: FIGURES 0 last one hour, 1 .. 6 two, 7 .. 9 three.
        int[] seeds = {0, 1, 2, -1, MAX, MIN};
        // By 12345, 1103527590, -2087924461, -1103502900, 1043980748 and 12345 less the sign's bit.
        int[] hours = {1, 3, 3, 3, 3, 1};
        for (int k = 0; k < seeds.length; k++) {
            due("seed " + seeds[k], of("00").winters(1, seeds[k], 0), hours[k]);
            due("OUT by " + seeds[k], of("00").winters(1, seeds[k], 1), 1);
        }
    }

    // Promise 32: "(z without its sign's bit over 65536, cut) modulo n"
    static void p32DrawsNextToTheEdgesOfADigit() {
        // z becomes 7, 6.99.., 10, 9.99.., 0.99.. and 1 by 65536; then with its sign's bit 0, 7, 6.99.. and all bits.
        int[] seeds = {
            1815783043, 2105588510, 778675843, 1068481310, -115164386, -404969853,
            2088216195, -331700605, -41895138, 230538014, -1916945634,
        };
        // FIGURES 7, 6, 0, 9, 0 and 1; then 0, 7, 6, 7 and 7.
        int[] hours = {3, 2, 1, 3, 1, 2, 1, 3, 2, 3, 3};
        for (int k = 0; k < seeds.length; k++) {
            due("seed " + seeds[k], of("00").winters(1, seeds[k], 0), hours[k]);
        }
    }

    // Promise 32: "FIGURE of each BULB, by numbers, a DRAW below 10"
    static void p32TheSeedGoesOn() {
        // Seed 1 draws 8, 8, 3, 5 and 1, one behind the other.
        int[] lit = {3, 6, 8, 10, 12};
        for (int n = 1; n <= 5; n++) {
            due("winters(" + n + ", 1, 0)", of("00").winters(n, 1, 0), lit[n - 1]);
        }
        // Two draw 8 and 8, then 3 and 5: 34 an hour of 140 and 140, then of 90 and 110.
        due("two, once", of("00 00").winters(1, 1, 0), 5);
        due("two, twice", of("00 00").winters(2, 1, 0), 8);
        due("two OUT, then one", of("00 00").winters(2, 1, 1), 3);
    }

    // Promise 32: "LIT (0 .. 999; 0 at first)"
    static void p32LitUpToItsMost() {
        // As "LIT more" is read here: how much LIT itself rises.
        int[] lit = {979, 980, 989, 998, 999};
        int[] more = {20, 19, 10, 1, 0};
        for (int k = 0; k < lit.length; k++) {
            OneIsOut x = out(of("30"), 0);
            pass(x, lit[k]);
            due("lit more than " + lit[k], x.winters(1, 1, 0), more[k]);
            due("each from now", x.winters(20, 1, 0), 20 * more[k]);
        }
    }

    // Promise 32: "(HOUR may pass 999 there)"
    static void p32NothingIsSo() {
        inMind(3, "winters(1, 1, 0)", () -> at(999, "00"), x -> x.winters(1, 1, 0));
        inMind(12, "winters(5, 1, 0)", () -> at(999, "00"), x -> x.winters(5, 1, 0));
        // FIGURE 8: 10 divides hour 1000.
        inMind(3, "winters(1, 1, 0)", () -> at(999, "49"), x -> x.winters(1, 1, 0));
        inMind(rich().winters(20, 7, 0), "winters(20, 7, 0)", Edges::rich, x -> x.winters(20, 7, 0));
        inMind(rich().winters(20, 7, 1), "winters(20, 7, 1)", Edges::rich, x -> x.winters(20, 7, 1));
    }

    // ---- 33: image

    // Promise 33: "THE IMAGE is taken: HOUR."
    static void p33OfTheFirstAndTheLastHour() {
        due("0", new OneIsOut().image(), 0);
        due("999", at(999).image(), 999);
        due("1", at(1, "09").image(), 1);
    }

    // Promise 33: "THE IMAGE: all that there is, but SHELVES (and THE IMAGE); RESTORED all is as it was then."
    static void p33TheLastOneTakenStands() {
        OneIsOut x = of("09");
        x.image();
        x.hours(1);
        due("again", x.image(), 1);
        x.hours(1);
        due("the second", x.restore(), 1);
        due("worn", x.bulb(0, 2), 64);
        due("taking changes nothing", x.count(2), 1);
        due("of what is restored", x.image(), 1);
        due("alike", x.restore(), 1);
    }

    // Promise 33: "No BULBS, one SPARE."
    static void p33OfANewOne() {
        OneIsOut x = new OneIsOut();
        x.image();
        hang(x, TEN);
        x.spares(9);
        x.hours(60);
        x.use(3, 0, 9);
        due("restore", x.restore(), 0);
        int[] counts = {0, 0, 0, 1, 0, 0, 0, 0};
        for (int what = 0; what < 8; what++) {
            due("count(" + what + ")", x.count(what), counts[what]);
        }
        due("no bulb", x.bulb(0, 0), -1);
        due("the next is 0", hang(x, "29").bulb(0, 0), 2);
        due("as new", x.bulb(0, 2), 0);
        due("whole", x.bulb(0, 3), 1);
        due("seated", x.bulb(0, 4), 1);
    }

    // ---- 34: restore

    // Promise 34: "-3 there is none."
    static void p34ThereIsNone() {
        due("of a new one", new OneIsOut().restore(), -3);
        OneIsOut x = of("09 19");
        x.hours(3);
        x.keep(0, 1, 7, 9);
        String before = state(x);
        due("restore", x.restore(), -3);
        due("all is as it was", state(x).equals(before) ? 1 : 0, 1);
    }

    // Promise 34: "RESTORED all is as it was then"
    static void p34AllIsAsItWas() {
        OneIsOut x = of("00 10 25 30 44 52 65 73 08 19");
        x.hours(3);
        worn(x, 20, 999, 31, 4, 5, 6, 77, 8, 0, 500);
        out(x, 3, 5);
        x.spares(4);
        x.use(3, 2, 4);
        due("image", x.image(), 3);
        int[] counts = new int[8];
        int[] bulbs = new int[50];
        told(x, counts, bulbs);
        worn(x, 1, 2, 3, 4, 5, 6, 7, 8, 9, 10);
        out(x, 0, 1, 3);
        for (int b = 0; b < 4; b++) {
            x.twist(b);
        }
        x.hours(60);
        x.spares(9);
        due("restore", x.restore(), 3);
        int[] countsThen = new int[8];
        int[] bulbsThen = new int[50];
        told(x, countsThen, bulbsThen);
        for (int k = 0; k < 8; k++) {
            due("count " + k, countsThen[k], counts[k]);
        }
        for (int k = 0; k < 50; k++) {
            due("bulb " + k / 5 + ", " + k % 5, bulbsThen[k], bulbs[k]);
        }
    }

    private static void told(OneIsOut x, int[] counts, int[] bulbs) {
        for (int what = 0; what < 8; what++) {
            counts[what] = x.count(what);
        }
        for (int k = 0; k < 50; k++) {
            bulbs[k] = x.bulb(k / 5, k % 5);
        }
    }

    // Promise 34: "when THE IMAGE is RESTORED, SHELVES stay as they are"
    static void p34ShelvesStayAsTheyAre() {
        OneIsOut x = new OneIsOut();
        x.keep(0, 1, 7, 9);
        x.keep(1, 1, 0, 5);
        fill(x, 2, 1, 300);
        x.image();
        x.keep(0, 0, 0, 0);
        fill(x, 1, 2, MAX);
        x.put(2, 0, -5);
        x.keep(3, 1, 4, 9);
        due("restore", x.restore(), 0);
        due("nothing", x.cost(0), -11);
        due("a row", x.element(1, 0), MAX);
        due("another number", x.element(2, 0), -5);
        due("a bulb", x.toss(3), 109);
    }

    // Promise 34: "THE IMAGE: all that there is, but SHELVES (and THE IMAGE)"
    static void p34TheImageStays() {
        OneIsOut x = of("09");
        x.image();
        for (int k = 1; k <= 3; k++) {
            x.hours(k);
            due("restore", x.restore(), 0);
            due("worn", x.bulb(0, 2), 0);
            due("whole", x.bulb(0, 3), 1);
        }
    }

    // Promise 34: "THE IMAGE is RESTORED: HOUR."
    static void p34TheLastHour() {
        OneIsOut x = at(999, "09");
        x.image();
        x.wears(0, 5);
        due("restore", x.restore(), 999);
        due("no hour more", x.hours(1), -3);
        due("worn", x.bulb(0, 2), 0);
    }

    // ---- 35: count

    // Promise 35: "-1 for others"
    static void p35Others() {
        for (int what : outside(0, 7)) {
            refused(-1, "count(" + what + ")", Edges::rich, x -> x.count(what));
            due("count(" + what + ") of none", new OneIsOut().count(what), -1);
        }
    }

    // Promise 35: "0 BULBS, 1 HOUR, 2 LIT, 3 SPARES, 4 SECONDS, 5 where THE HAND is, 6 WHOLE ones (bits), 7 SEATED ones
    // (bits)"
    static void p35TheLeastAndTheMost() {
        int[] least = {0, 0, 0, 1, 0, 0, 0, 0};
        for (int what = 0; what < 8; what++) {
            due("count(" + what + ") of none", new OneIsOut().count(what), least[what]);
        }
        OneIsOut x = out(of("30"), 0);
        pass(x, 999);
        out(hang(x, "10 10 10 10 10 10 10 10 10"), 0);
        x.spares(9);
        for (int k = 0; k < 310; k++) {
            x.use(3, 0, 9);
        }
        int[] most = {10, 999, 999, 9, 9999, 9, 1023, 1023};
        for (int what = 0; what < 8; what++) {
            due("count(" + what + ") at the most", x.count(what), most[what]);
        }
    }

    // Promise 35: "6 WHOLE ones (bits), 7 SEATED ones (bits)"
    static void p35NoneAndAll() {
        OneIsOut x = out(at(2, "10 10 10"), 0, 1, 2);
        due("none is WHOLE", x.count(6), 0);
        due("all are SEATED", x.count(7), 7);
        x.hours(1);
        due("none is SEATED", x.count(7), 0);
        out(x, 2);
        due("the last is WHOLE", x.count(6), 4);
        x.use(1, 2, 2);
        due("the last is SEATED", x.count(7), 4);
    }
}
