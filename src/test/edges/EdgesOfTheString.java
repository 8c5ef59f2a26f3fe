/** Edges of promises 1 and 3 to 10: the string as told, but its text. */
final class EdgesOfTheString extends Edges {
    private static final int[] SORTS = {0, 1, 2, 3, 4, 5, 6, 7};

    // ---- 1: a new object

    // Promise 1: "No BULBS, one SPARE."
    static void p1NoBulbsOneSpare() {
        OneIsOut x = new OneIsOut();
        due("count(0)", x.count(0), 0);
        due("count(3)", x.count(3), 1);
        due("count(6)", x.count(6), 0);
        due("count(7)", x.count(7), 0);
        due("bulb(0, 0)", x.bulb(0, 0), -1);
    }

    // Promise 1: "HOUR (0 .. 999; 0 at first)"
    static void p1HourAtFirst() {
        due("count(1)", new OneIsOut().count(1), 0);
    }

    // Promise 1: "LIT (0 .. 999; 0 at first)"
    static void p1LitAtFirst() {
        due("count(2)", new OneIsOut().count(2), 0);
    }

    // Promise 1: "THE HAND is at a SOCKET (0 at first)"
    static void p1HandAtFirst() {
        due("count(5)", new OneIsOut().count(5), 0);
    }

    // Promise 1: "SECONDS (0 .. 9999; 0 at first; never more)"
    static void p1SecondsAtFirst() {
        due("count(4)", new OneIsOut().count(4), 0);
    }

    // Promise 1: "SHELVES 0 .. 7 each hold nothing (at first), a BULB, a ROW."
    static void p1ShelvesHoldNothingAtFirst() {
        OneIsOut x = new OneIsOut();
        for (int d = 0; d < 8; d++) {
            due("cost(" + d + ")", x.cost(d), -11);
            due("forged(" + d + ")", x.forged(d), -11);
        }
        due("cost(8)", x.cost(8), -1);
        due("cost(-1)", x.cost(-1), -1);
    }

    // Promise 1: "An object is used for at most 512 calls after it has been made; what later calls answer is free."
    static void p1The512thCall() {
        OneIsOut x = new OneIsOut();
        for (int call = 1; call <= 511; call++) {
            due("call " + call, x.spares(call % 10), call == 1 ? 1 : (call - 1) % 10);
        }
        due("call 512", x.count(3), 1);
    }

    // Promise 1: "An object is used for at most 512 calls after it has been made"
    static void p1The512thCallOfThoseThatMake() {
        OneIsOut x = new OneIsOut();
        for (int call = 1; call <= 511; call++) {
            due("call " + call, x.row(call % 8, call % 3, 100), 0);
        }
        due("call 512", x.put(511 % 8, 99, 7), 0);
    }

    // ---- 3: bulb

    // Promise 3: "-1."
    static void p3NoSuchBulb() {
        for (int b : outside(0, 7)) {
            for (int what = 0; what < 8; what++) {
                int w = what;
                refused(-1, "bulb(" + b + ", " + w + ")", Edges::rich, x -> x.bulb(b, w));
            }
        }
    }

    // Promise 3: "no such one, one twice, a number out of its range"
    static void p3NoSuchWhat() {
        for (int what : outside(0, 7)) {
            refused(-1, "bulb(0, " + what + ")", Edges::rich, x -> x.bulb(0, what));
            refused(-1, "bulb(7, " + what + ")", Edges::rich, x -> x.bulb(7, what));
        }
    }

    // Promise 3: "A STRING of BULBS 0 .. as they come (10 at most)"
    static void p3OfNoneAndOfTen() {
        OneIsOut none = new OneIsOut();
        for (int what = 0; what < 8; what++) {
            due("bulb(0, " + what + ") of none", none.bulb(0, what), -1);
        }
        OneIsOut ten = of("00 10 20 30 40 50 60 70 08 79");
        due("bulb(9, 0)", ten.bulb(9, 0), 7);
        due("bulb(9, 1)", ten.bulb(9, 1), 9);
        due("bulb(10, 0)", ten.bulb(10, 0), -1);
    }

    // Promise 3: "with a FIGURE (0 .. 9)"
    static void p3FigureAtItsEnds() {
        for (int sort : SORTS) {
            due("least of " + sort, of(sort + "0").bulb(0, 1), 0);
            due("most of " + sort, of(sort + "9").bulb(0, 1), 9);
        }
    }

    // Promise 3: "WORN (0 .. 999; 0 at first), WHOLE (at first) or OUT, SEATED (at first) or not"
    static void p3AsOneIsAtFirst() {
        for (int sort : SORTS) {
            OneIsOut x = of(sort + "4");
            due("sort", x.bulb(0, 0), sort);
            due("worn of " + sort, x.bulb(0, 2), 0);
            due("whole of " + sort, x.bulb(0, 3), 1);
            due("seated of " + sort, x.bulb(0, 4), 1);
        }
    }

    // Promise 3: "WORN (0 .. 999; 0 at first)"
    static void p3WornAtItsMost() {
        due("worn", worn(of("00"), 999).bulb(0, 2), 999);
    }

    // Promise 3: "LIFE: BULB 60 and 10 times FIGURE; COLD half of a BULB's; PAINTED 20 less than a BULB's; SPARE 150;
    // LAST twice a PAINTED's."
    static void p3LifeOfTheLeastAndTheMostFigure() {
        int[] least = {60, 60, 30, 60, 60, 40, 150, 80};
        int[] most = {150, 150, 75, 150, 150, 130, 150, 260};
        for (int sort : SORTS) {
            due("life of " + sort + "0", of(sort + "0").bulb(0, 5), least[sort]);
            due("life of " + sort + "9", of(sort + "9").bulb(0, 5), most[sort]);
        }
        due("an odd life", of("21").bulb(0, 5), 35);
    }

    // Promise 3: "GLOW: BULB 4; COLD 1; SHORTED 0; PAINTED 1 less than a BULB's; SPARE FIGURE by 2, cut, more than a
    // BULB's; LAST 2 more than a PAINTED's."
    static void p3GlowOfTheLeastAndTheMostFigure() {
        int[] least = {4, 4, 1, 0, 4, 3, 4, 5};
        int[] most = {4, 4, 1, 0, 4, 3, 8, 5};
        for (int sort : SORTS) {
            due("glow of " + sort + "0", of(sort + "0").bulb(0, 6), least[sort]);
            due("glow of " + sort + "9", of(sort + "9").bulb(0, 6), most[sort]);
        }
        due("1 by 2, cut", of("61").bulb(0, 6), 4);
        due("2 by 2", of("62").bulb(0, 6), 5);
        due("3 by 2, cut", of("63").bulb(0, 6), 5);
    }

    // Promise 3: "BULB if it is WHOLE; LOOSE as a BULB, if it is SEATED, too"
    static void p3ALooseOneLeadsIfWholeAndSeated() {
        OneIsOut x = at(2, "10 10 10 10");
        out(x, 0, 1);
        due("OUT, seated", x.bulb(0, 7), 0);
        x.hours(1);
        x.use(1, 1, 1);
        x.use(1, 3, 3);
        due("OUT, not seated", x.bulb(0, 7), 0);
        due("OUT, seated again", x.bulb(1, 7), 0);
        due("whole, not seated", x.bulb(2, 7), 0);
        due("whole, seated again", x.bulb(3, 7), 1);
        due("a bulb OUT", out(of("00"), 0).bulb(0, 7), 0);
        due("a bulb", of("00").bulb(0, 7), 1);
    }

    // Promise 3: "COLD as a BULB, but once WORN is 10 times FIGURE or more in even HOURS alone"
    static void p3AColdOneAtTenTimesItsFigure() {
        for (int figure = 1; figure <= 9; figure++) {
            OneIsOut odd = of("2" + figure);
            OneIsOut even = at(1, "2" + figure);
            worn(odd, 10 * figure - 1);
            worn(even, 10 * figure - 1);
            due("less, odd " + figure, odd.bulb(0, 7), 1);
            due("less, even " + figure, even.bulb(0, 7), 1);
            worn(odd, 10 * figure);
            worn(even, 10 * figure);
            due("so, odd " + figure, odd.bulb(0, 7), 0);
            due("so, even " + figure, even.bulb(0, 7), 1);
            due("so, even, OUT " + figure, out(even, 0).bulb(0, 7), 0);
        }
    }

    // Promise 3: "COLD as a BULB, but once WORN is 10 times FIGURE or more in even HOURS alone"
    static void p3AColdOneOfFigureNoneIsColdAtOnce() {
        due("in hour 1", of("20").bulb(0, 7), 0);
        due("in hour 2", at(1, "20").bulb(0, 7), 1);
        due("in hour 3", at(2, "20").bulb(0, 7), 0);
    }

    // Promise 3: "SHORTED always"
    static void p3AShortedOneLeadsOut() {
        due("OUT", out(of("30"), 0).bulb(0, 7), 1);
        due("worn, OUT", out(worn(of("39"), 999), 0).bulb(0, 7), 1);
    }

    // Promise 3: "BLINKER as a BULB, if 2 more than FIGURE does not divide h, too"
    static void p3ABlinkerOfTheLeastAndTheMostFigure() {
        int[] hours = {1, 2, 3, 4, 10, 11, 12, 22, 23};
        int[] least = {1, 0, 1, 0, 0, 1, 0, 0, 1};
        int[] most = {1, 1, 1, 1, 1, 0, 1, 0, 1};
        for (int k = 0; k < hours.length; k++) {
            OneIsOut x = at(hours[k] - 1, "40 49");
            due("40 in " + hours[k], x.bulb(0, 7), least[k]);
            due("49 in " + hours[k], x.bulb(1, 7), most[k]);
            out(x, 0, 1);
            due("40 OUT in " + hours[k], x.bulb(0, 7), 0);
            due("49 OUT in " + hours[k], x.bulb(1, 7), 0);
        }
    }

    // Promise 3: "1 it LEADS in the next HOUR, 0 (7)"
    static void p3LeadsInTheHourBehindTheLast() {
        // Hour 1000: 2, 5, 8 and 10 divide it, 3 and 11 do not.
        OneIsOut x = at(999, "40 41 43 46 48 49 20 21");
        int[] leads = {0, 1, 0, 0, 0, 1, 1, 1};
        for (int b = 0; b < 8; b++) {
            due("bulb " + b, x.bulb(b, 7), leads[b]);
        }
        // Hour 999: 3 and 9 divide it; it is odd.
        OneIsOut y = at(998, "40 41 47 20 21");
        int[] leadsThen = {1, 0, 0, 0, 1};
        for (int b = 0; b < 5; b++) {
            due("bulb " + b + " then", y.bulb(b, 7), leadsThen[b]);
        }
    }

    // ---- 4: hangs

    // Promise 4: "-1, -11, -12 (a ROW), -2."
    static void p4NoSuchShelf() {
        for (int d : outside(0, 7)) {
            refused(-1, "hangs(" + d + ")", Edges::rich, x -> x.hangs(d));
            refused(-1, "hangs(" + d + "), no room", Edges::full, x -> x.hangs(d));
        }
    }

    // Promise 4: "-11 nothing is held where something is wanted"
    static void p4NothingThere() {
        refused(-11, "hangs(4)", Edges::rich, x -> x.hangs(4));
        refused(-11, "hangs(7)", Edges::rich, x -> x.hangs(7));
        refused(-11, "hangs(4), no room", Edges::full, x -> x.hangs(4));
    }

    // Promise 4: "-1, -11, -12 (a ROW), -2."
    static void p4ARow() {
        for (int d : new int[] {0, 2, 3, 5}) {
            refused(-12, "hangs(" + d + ")", Edges::rich, x -> x.hangs(d));
            refused(-12, "hangs(" + d + "), no room", Edges::full, x -> x.hangs(d));
        }
    }

    // Promise 4: "SHELVES 0 .. 7 each hold nothing (at first), a BULB, a ROW."
    static void p4WhatTheShelfHeldBeforeIsGone() {
        OneIsOut x = of("00");
        x.keep(0, 1, 4, 3);
        x.row(0, 0, 3);
        due("a row now", x.hangs(0), -12);
        x.keep(0, 0, 0, 0);
        due("nothing now", x.hangs(0), -11);
        x.keep(0, 1, 0, 9);
        due("a bulb again", x.hangs(0), 1);
        due("sort", x.bulb(1, 0), 0);
        due("figure", x.bulb(1, 1), 9);
    }

    // Promise 4: "-2 there is no room"
    static void p4NoRoom() {
        refused(-2, "hangs(1)", Edges::full, x -> x.hangs(1));
        refused(-2, "hangs(6)", Edges::full, x -> x.hangs(6));
    }

    // Promise 4: "A STRING of BULBS 0 .. as they come (10 at most)"
    static void p4TenAreTakenTheEleventhIsNot() {
        OneIsOut x = new OneIsOut();
        x.keep(0, 1, 0, 0);
        for (int b = 0; b < 10; b++) {
            due("hangs", x.hangs(0), b);
            due("count(0)", x.count(0), b + 1);
        }
        due("the eleventh", x.hangs(0), -2);
        due("count(0)", x.count(0), 10);
        due("count(6)", x.count(6), 1023);
        due("count(7)", x.count(7), 1023);
    }

    // Promise 4: "The ROW of a text, and what is taken from a SHELF, stay there"
    static void p4WhatHangsStaysOnItsShelf() {
        OneIsOut x = new OneIsOut();
        x.keep(7, 1, 7, 9);
        due("first", x.hangs(7), 0);
        due("cost", x.cost(7), 19);
        due("second", x.hangs(7), 1);
        due("sort", x.bulb(1, 0), 7);
        due("figure", x.bulb(1, 1), 9);
    }

    // ---- 5: wears

    // Promise 5: "WORN (0 .. 999; 0 at first)"
    static void p5LeastAndMost() {
        OneIsOut x = of("00");
        due("999", x.wears(0, 999), 0);
        due("0", x.wears(0, 0), 999);
        due("worn", x.bulb(0, 2), 0);
    }

    // Promise 5: "-1."
    static void p5TooLittleAndTooMuch() {
        for (int v : outside(0, 999)) {
            refused(-1, "wears(0, " + v + ")", Edges::rich, x -> x.wears(0, v));
            refused(-1, "wears(7, " + v + ")", Edges::rich, x -> x.wears(7, v));
        }
    }

    // Promise 5: "-1 no such one, one twice, a number out of its range"
    static void p5NoSuchBulb() {
        for (int b : outside(0, 7)) {
            refused(-1, "wears(" + b + ", 5)", Edges::rich, x -> x.wears(b, 5));
        }
        for (int b : outside(0, 9)) {
            refused(-1, "wears(" + b + ", 5)", Edges::full, x -> x.wears(b, 5));
        }
        due("of none", new OneIsOut().wears(0, 0), -1);
        due("the last", full().wears(9, 5), 0);
    }

    // Promise 5: "WORN becomes v (OUT or WHOLE as it is): the old."
    static void p5OutOrWholeAsItIs() {
        OneIsOut x = of("00 00");
        x.wears(0, 60);
        due("its life, whole", x.bulb(0, 3), 1);
        x.wears(0, 999);
        due("more, whole", x.bulb(0, 3), 1);
        out(x, 1);
        x.wears(1, 0);
        due("none, OUT", x.bulb(1, 3), 0);
        due("leads not", x.bulb(1, 7), 0);
    }

    // ---- 6: breaks

    // Promise 6: "-1."
    static void p6NoSuchBulb() {
        for (int b : outside(0, 7)) {
            refused(-1, "breaks(" + b + ")", Edges::rich, x -> x.breaks(b));
        }
        for (int b : outside(0, 9)) {
            refused(-1, "breaks(" + b + ")", Edges::full, x -> x.breaks(b));
        }
        due("of none", new OneIsOut().breaks(0), -1);
    }

    // Promise 6: "It is OUT, or WHOLE again: 1 WHOLE, 0."
    static void p6OutAndWholeAgainFromTheFirstToTheLast() {
        OneIsOut x = of(TEN);
        for (int b = 0; b < 10; b++) {
            due("OUT", x.breaks(b), 0);
            due("whole ones", x.count(6), 1023 & -2 << b);
        }
        due("all OUT", x.count(6), 0);
        for (int b = 9; b >= 0; b--) {
            due("whole", x.breaks(b), 1);
        }
        due("all whole", x.count(6), 1023);
    }

    // ---- 7: spares

    // Promise 7: "SPARES (0 .. 9; 1 at first)"
    static void p7LeastAndMost() {
        OneIsOut x = new OneIsOut();
        due("9", x.spares(9), 1);
        due("0", x.spares(0), 9);
        due("1", x.spares(1), 0);
        due("count(3)", x.count(3), 1);
    }

    // Promise 7: "-1."
    static void p7TooFewAndTooMany() {
        for (int v : outside(0, 9)) {
            refused(-1, "spares(" + v + ")", Edges::rich, x -> x.spares(v));
        }
    }

    // ---- 8: twist

    // Promise 8: "-1, -3 no SPARES."
    static void p8NoSuchBulb() {
        for (int b : outside(0, 7)) {
            refused(-1, "twist(" + b + ")", Edges::rich, x -> x.twist(b));
            refused(-1, "twist(" + b + "), no SPARES", EdgesOfTheString::noSpares, x -> x.twist(b));
        }
        due("of none", new OneIsOut().twist(0), -1);
    }

    private static OneIsOut noSpares() {
        OneIsOut x = rich();
        x.spares(0);
        return x;
    }

    // Promise 8: "-3 no SPARES"
    static void p8NoSpares() {
        refused(-3, "twist(0)", EdgesOfTheString::noSpares, x -> x.twist(0));
        refused(-3, "twist(7)", EdgesOfTheString::noSpares, x -> x.twist(7));
    }

    // Promise 8: "SPARES are 1 less"
    static void p8TheLastSpare() {
        OneIsOut x = of("00");
        due("the one", x.twist(0), 8);
        due("count(3)", x.count(3), 0);
        due("no more", x.twist(0), -3);
        x.spares(9);
        for (int left = 8; left >= 0; left--) {
            due("of nine", x.twist(0), 8);
            due("count(3)", x.count(3), left);
        }
        due("no more", x.twist(0), -3);
        due("count(4)", x.count(4), 80);
    }

    // Promise 8: "A TWIST takes 8 likewise: BULB i is a SPARE of FIGURE 5 then, WORN 0, WHOLE, SEATED; SPARES are 1
    // less; THE HAND is at i."
    static void p8FromTheNearestAndTheFarthestSocket() {
        OneIsOut x = of("00 10 20 30 40 50 60 70 18 19");
        pass(x, 12);
        worn(x, 1, 2, 3, 4, 5, 6, 7, 8, 9, 999);
        out(x, 9);
        x.spares(3);
        due("seated no more", x.bulb(9, 4), 0);
        due("at the hand", x.twist(0), 8);
        due("nine on", x.twist(9), 17);
        int[] spare = {6, 5, 0, 1, 1, 150, 6, 1};
        for (int what = 0; what < 8; what++) {
            due("bulb(9, " + what + ")", x.bulb(9, what), spare[what]);
        }
        due("count(5)", x.count(5), 9);
        due("nine back", x.twist(0), 17);
        due("count(4)", x.count(4), 42);
        due("count(5)", x.count(5), 0);
        due("count(3)", x.count(3), 0);
    }

    /** Ten bulbs, THE HAND at 9, and 9990 SECONDS: a wire across all takes 24, and the way back 9. */
    static OneIsOut of9990Seconds() {
        OneIsOut x = of(TEN);
        for (int k = 0; k < 303; k++) {
            x.use(3, 0, 9);
        }
        return x;
    }

    // Promise 8: "SECONDS (0 .. 9999; 0 at first; never more)"
    static void p8SecondsUpToTheirMost() {
        OneIsOut x = of9990Seconds();
        due("count(4)", x.count(4), 9990);
        x.use(1, 9, 9);
        due("count(4)", x.count(4), 9991);
        due("just so", x.twist(9), 8);
        due("count(4)", x.count(4), 9999);
    }

    // Promise 8: "SECONDS (0 .. 9999; 0 at first; never more)"
    static void p8SecondsNeverMore() {
        OneIsOut x = of9990Seconds();
        x.use(0, 9, 9);
        due("count(4)", x.count(4), 9992);
        due("one too many", x.twist(9), 8);
        due("count(4)", x.count(4), 9999);
        x.spares(1);
        due("it takes what it takes", x.twist(0), 17);
        due("count(4)", x.count(4), 9999);
        due("count(5)", x.count(5), 0);
    }

    // ---- 9: use

    // Promise 9: "-1 (i above j, too)."
    static void p9NoSuchTool() {
        for (int tool : outside(0, 4)) {
            refused(-1, "use(" + tool + ", 0, 0)", Edges::rich, x -> x.use(tool, 0, 0));
        }
    }

    // Promise 9: "-1 (i above j, too)."
    static void p9NoSuchBulb() {
        for (int tool = 0; tool <= 4; tool++) {
            int t = tool;
            for (int b : outside(0, 7)) {
                refused(-1, "use(" + t + ", " + b + ", 7)", Edges::rich, x -> x.use(t, b, 7));
                refused(-1, "use(" + t + ", 0, " + b + ")", Edges::rich, x -> x.use(t, 0, b));
                refused(-1, "use(" + t + ", " + b + ", " + b + ")", Edges::rich, x -> x.use(t, b, b));
            }
            due("of none", new OneIsOut().use(t, 0, 0), -1);
        }
    }

    // Promise 9: "-1 (i above j, too)."
    static void p9IAboveJ() {
        for (int tool = 0; tool <= 4; tool++) {
            int t = tool;
            refused(-1, "use(" + t + ", 1, 0)", Edges::rich, x -> x.use(t, 1, 0));
            refused(-1, "use(" + t + ", 7, 6)", Edges::rich, x -> x.use(t, 7, 6));
            due("i is j", of("00 00").use(t, 1, 1), t == 0 ? 0 : 1);
        }
    }

    // Promise 9: "0 LOOK 2: WORN of BULB i is half of its LIFE (cut) or more."
    static void p9LookAtHalfItsLifeCut() {
        OneIsOut x = worn(of("21 00 79"), 16, 29, 129);
        due("16 of 35", x.use(0, 0, 2), 0);
        due("29 of 60", x.use(0, 1, 2), 0);
        due("129 of 260", x.use(0, 2, 2), 0);
        worn(x, 17, 30, 130);
        due("17 of 35", x.use(0, 0, 2), 1);
        due("30 of 60", x.use(0, 1, 2), 1);
        due("130 of 260", x.use(0, 2, 2), 1);
        due("OUT as it is", out(x, 0).use(0, 0, 0), 1);
        due("of several the one told", worn(x, 0).use(0, 0, 2), 0);
    }

    // Promise 9: "1 KNOCK 1: BULB i is SEATED from now on; then: THE STRING would BURN."
    static void p9KnockSeatsFirst() {
        OneIsOut x = at(2, "10 10");
        out(x, 0);
        x.hours(1);
        out(x, 0);
        due("seated ones", x.count(7), 0);
        due("the other is not", x.use(1, 0, 1), 0);
        due("seated ones", x.count(7), 1);
        due("now all are", x.use(1, 1, 1), 1);
        due("seated ones", x.count(7), 3);
        due("seated as it is", x.use(1, 1, 1), 1);
        due("1, a socket and 1, 1", x.count(4), 4);
        due("one OUT", out(x, 1).use(1, 0, 0), 0);
    }

    // Promise 9: "BULB i is SEATED from now on"
    static void p9NoOtherToolSeats() {
        for (int tool = 0; tool <= 4; tool++) {
            OneIsOut x = out(at(2, "10 10"), 0);
            x.hours(1);
            x.use(tool, 0, 1);
            due("seated ones by " + tool, x.count(7), tool == 1 ? 1 : 0);
            x.use(tool, 1, 1);
            due("seated ones by " + tool, x.count(7), tool == 1 ? 3 : 0);
        }
    }

    // Promise 9: "2 NEEDLE 3 and j less i: all BULBS i .. j LEAD."
    static void p9NeedleOfOneAndOfAll() {
        OneIsOut x = out(of("00 00 00 00 00 00 00 00 00 00"), 0, 5, 9);
        due("of one", x.use(2, 4, 4), 1);
        due("count(4)", x.count(4), 7);
        due("up to the one ahead", x.use(2, 1, 4), 1);
        due("with it", x.use(2, 1, 5), 0);
        due("from it on", x.use(2, 5, 8), 0);
        due("from the one behind", x.use(2, 6, 8), 1);
        int before = x.count(4);
        due("all", x.use(2, 0, 9), 0);
        due("8 back and 12", x.count(4) - before, 20);
        due("count(5)", x.count(5), 9);
        due("all whole", out(x, 0, 5, 9).use(2, 0, 9), 1);
    }

    // Promise 9: "3 WIRE 6 plus twice (j less i): all BULBS but i .. j LEAD."
    static void p9WireAcrossOneAndAcrossAll() {
        OneIsOut x = out(of("00 00 00 00 00 00 00 00 00 00"), 3, 5);
        due("across one", x.use(3, 3, 3), 0);
        due("count(4)", x.count(4), 9);
        due("across both", x.use(3, 3, 5), 1);
        due("10 of it", x.count(4), 19);
        due("too late", x.use(3, 4, 9), 0);
        due("too soon", x.use(3, 0, 4), 0);
        out(x, 0, 1, 2, 4, 6, 7, 8, 9);
        due("all OUT, across all", x.use(3, 0, 9), 1);
        due("count(5)", x.count(5), 9);
        due("all OUT but the first told", x.use(3, 1, 9), 0);
        due("all OUT but the last told", x.use(3, 0, 8), 0);
    }

    // Promise 9: "4 SPARE 8: all BULBS but i LEAD."
    static void p9ASpareOfOneAlone() {
        OneIsOut x = out(of("00"), 0);
        x.spares(0);
        due("no other", x.use(4, 0, 0), 1);
        due("no SPARES, none less", x.count(3), 0);
        due("OUT still", x.count(6), 0);
        OneIsOut ten = out(of(TEN), 0);
        due("0", ten.use(4, 0, 9), 1);
        due("9", ten.use(4, 9, 9), 0);
        due("8 and 17", ten.count(4), 25);
        out(ten, 0, 9);
        due("0", ten.use(4, 0, 9), 0);
        due("9", ten.use(4, 9, 9), 1);
        due("count(3)", ten.count(3), 1);
        for (int other = 0; other < 10; other++) {
            due("4, OUT is " + other, out(of(TEN), other).use(4, 4, 4), other == 4 ? 1 : 0);
        }
    }

    // Promise 9: "3 WIRE 6 plus twice (j less i): all BULBS but i .. j LEAD."
    static void p9OneOutOnEitherSideOfWhatIsTold() {
        for (int other = 0; other < 10; other++) {
            boolean within = other >= 3 && other <= 5;
            due("wire 3 .. 5, OUT is " + other, out(of(TEN), other).use(3, 3, 5), within ? 1 : 0);
            due("needle 3 .. 5, OUT is " + other, out(of(TEN), other).use(2, 3, 5), within ? 0 : 1);
            due("knock, OUT is " + other, out(of(TEN), other).use(1, 3, 5), 0);
        }
    }

    // Promise 9: "THE HAND is at i then, of NEEDLE and WIRE at j."
    static void p9TheHandFromEndToEnd() {
        int[] seconds = {2, 1, 12, 24, 8};
        int[] back = {2, 1, 3, 6, 8};
        for (int tool = 0; tool <= 4; tool++) {
            OneIsOut x = of(TEN);
            x.use(tool, 0, 9);
            due("seconds", x.count(4), seconds[tool]);
            due("hand", x.count(5), tool == 2 || tool == 3 ? 9 : 0);
            OneIsOut y = of(TEN);
            y.use(tool, 9, 9);
            due("nine sockets", y.count(4), back[tool] + 9);
            due("hand", y.count(5), 9);
            y.use(tool, 0, 0);
            due("nine back", y.count(4), 2 * back[tool] + 18);
            due("hand", y.count(5), 0);
        }
    }

    // Promise 9: "what it tells (1, else 0) is by the next HOUR as all is now"
    static void p9ByTheHourBehindTheLast() {
        OneIsOut x = at(999, "40 00");
        due("knock", x.use(1, 1, 1), 0);
        due("needle", x.use(2, 0, 0), 0);
        due("wire", x.use(3, 1, 1), 0);
        due("spare", x.use(4, 1, 1), 0);
        OneIsOut y = at(998, "40 00");
        due("knock", y.use(1, 1, 1), 1);
        due("needle", y.use(2, 0, 0), 1);
        due("wire", y.use(3, 1, 1), 1);
        due("spare", y.use(4, 1, 1), 1);
        // 3 divides 999, not 998 or 1000.
        due("knock", at(998, "41 00").use(1, 1, 1), 0);
        due("needle", at(998, "41 00").use(2, 0, 0), 0);
        due("wire", at(998, "41 00").use(3, 1, 1), 0);
        due("spare", at(998, "41 00").use(4, 1, 1), 0);
        due("knock", at(999, "41 00").use(1, 1, 1), 1);
        due("knock", at(997, "41 00").use(1, 1, 1), 1);
    }

    // Promise 9: "SECONDS (0 .. 9999; 0 at first; never more)"
    static void p9SecondsNeverMore() {
        OneIsOut x = of9990Seconds();
        for (int k = 1; k <= 3; k++) {
            due("needle", x.use(2, 9, 9), 1);
            due("count(4)", x.count(4), 9990 + 3 * k);
        }
        for (int tool = 0; tool <= 4; tool++) {
            x.use(tool, 9, 9);
            due("count(4)", x.count(4), 9999);
        }
        OneIsOut y = of9990Seconds();
        due("needle of twelve", y.use(2, 0, 0), 1);
        due("count(4)", y.count(4), 9999);
        due("count(5)", y.count(5), 0);
    }

    // ---- 10: hours

    // Promise 10: "n HOURS (1 .. 60): LIT."
    static void p10OneAndSixty() {
        OneIsOut x = out(of("30"), 0);
        due("1", x.hours(1), 1);
        due("60", x.hours(60), 61);
        due("count(1)", x.count(1), 61);
    }

    // Promise 10: "-1, -3 HOUR above 999."
    static void p10TooFewAndTooMany() {
        for (int n : outside(1, 60)) {
            refused(-1, "hours(" + n + ")", Edges::rich, x -> x.hours(n));
            refused(-1, "hours(" + n + ") at 999", () -> at(999, "00"), x -> x.hours(n));
        }
    }

    // Promise 10: "hours() is refused (-3; in THE TEXT kind 2), if HOUR and n together are above 999; none of them
    // goes then."
    static void p10HourUpTo999() {
        for (int n = 1; n <= 60; n += 59) {
            OneIsOut x = at(999 - n, "30");
            out(x, 0);
            due("just so", x.hours(n), n);
            due("count(1)", x.count(1), 999);
            int many = n;
            refused(-3, "hours(" + n + ")", () -> out(at(1000 - many, "30 10"), 0), y -> y.hours(many));
            refused(-3, "hours(60)", () -> out(at(1000 - many, "30 10"), 0), y -> y.hours(60));
        }
        refused(-3, "hours(1) at 999", () -> at(999, "00"), x -> x.hours(1));
    }

    // Promise 10: "AN HOUR: HOUR is 1 more."
    static void p10EachHourIsOneMore() {
        OneIsOut x = new OneIsOut();
        for (int hour = 1; hour <= 3; hour++) {
            due("dark", x.hours(1), 0);
            due("count(1)", x.count(1), hour);
        }
        hang(x, "09");
        due("lit", x.hours(2), 2);
        due("count(1)", x.count(1), 5);
    }

    // Promise 10: "THE STRING BURNS in it, if there is a BULB and all LEAD then."
    static void p10NoBulb() {
        OneIsOut x = new OneIsOut();
        due("empty", x.hours(60), 0);
        due("count(1)", x.count(1), 60);
        hang(x, "09");
        due("one", x.hours(1), 1);
        hang(x, "09");
        out(x, 1);
        due("one is OUT", x.hours(1), 1);
        due("worn 0", x.bulb(0, 2), 64);
        due("worn 1", x.bulb(1, 2), 0);
    }

    // Promise 10: "LIT is 1 more (999 at most)"
    static void p10LitUpToItsMost() {
        OneIsOut x = out(of("30"), 0);
        pass(x, 998);
        due("count(2)", x.count(2), 998);
        due("the last", x.hours(1), 999);
        due("no more", x.hours(1), -3);
        due("count(2)", x.count(2), 999);
    }

    // Promise 10: "VOLTS are 60 by how many BULBS are WHOLE, cut (0, if none is)"
    static void p10VoltsOfOneToTen() {
        int[] worn = {64, 34, 24, 19, 16, 14, 12, 11, 10, 10};
        for (int many = 1; many <= 10; many++) {
            OneIsOut x = of(TEN.substring(0, 3 * many - 1));
            due("hours", x.hours(1), 1);
            due("worn of " + many, x.bulb(0, 2), worn[many - 1]);
            due("the last of " + many, x.bulb(many - 1, 2), worn[many - 1]);
        }
    }

    // Promise 10: "VOLTS are 60 by how many BULBS are WHOLE, cut (0, if none is)"
    static void p10NoneIsWhole() {
        OneIsOut x = out(of("30 39"), 0, 1);
        due("burns", x.hours(1), 1);
        due("worn 0", x.bulb(0, 2), 0);
        due("worn 1", x.bulb(1, 2), 0);
        OneIsOut y = out(of("39 09 39"), 0, 2);
        due("one alone is", y.hours(1), 1);
        due("worn of it", y.bulb(1, 2), 64);
        due("worn of others", y.bulb(0, 2) + y.bulb(2, 2), 0);
    }

    // Promise 10: "each BULB that is WHOLE is its GLOW and VOLTS more WORN (999 at most)"
    static void p10WornUpToItsMost() {
        int[] before = {934, 935, 936, 998, 999};
        int[] behind = {998, 999, 999, 999, 999};
        for (int k = 0; k < before.length; k++) {
            OneIsOut x = worn(of("09"), before[k]);
            due("burns", x.hours(1), 1);
            due("worn from " + before[k], x.bulb(0, 2), behind[k]);
            due("OUT", x.bulb(0, 3), 0);
        }
    }

    // Promise 10: "and OUT, if WORN is LIFE or more then"
    static void p10OutAtItsLife() {
        int[] before = {35, 36, 37};
        int[] whole = {1, 0, 0};
        for (int k = 0; k < before.length; k++) {
            OneIsOut x = worn(of("04"), before[k]);
            due("burns", x.hours(1), 1);
            due("worn", x.bulb(0, 2), before[k] + 64);
            due("whole at " + (before[k] + 64), x.bulb(0, 3), whole[k]);
        }
    }

    // Promise 10: "If it BURNS: LIT is 1 more (999 at most)"
    static void p10NobodyGoesOutInTheDark() {
        OneIsOut x = out(worn(of("00 00"), 500, 0), 1);
        due("dark", x.hours(60), 0);
        due("whole as worn as it is", x.bulb(0, 3), 1);
        due("worn", x.bulb(0, 2), 500);
        out(x, 1);
        due("burns", x.hours(1), 1);
        due("OUT", x.bulb(0, 3), 0);
    }

    // Promise 10: "Then (it BURNED or not) each LOOSE one is SEATED no more, if 3 more than FIGURE divides HOUR."
    static void p10LooseOfTheLeastAndTheMostFigure() {
        OneIsOut dark = out(at(1, "10 19 00"), 2);
        due("hour 2", dark.hours(1), 0);
        due("seated", dark.count(7), 7);
        dark.hours(1);
        due("hour 3, dark", dark.count(7), 6);
        dark.hours(8);
        due("hour 11", dark.count(7), 6);
        dark.hours(1);
        due("hour 12", dark.count(7), 4);
        dark.use(1, 0, 0);
        dark.use(1, 1, 1);
        dark.hours(2);
        due("hour 14", dark.count(7), 7);
        dark.hours(1);
        due("hour 15", dark.count(7), 6);
        dark.hours(8);
        due("hour 23", dark.count(7), 6);
        dark.hours(1);
        due("hour 24", dark.count(7), 4);
        OneIsOut lit = at(2, "10 09 09");
        due("it leads in hour 3", lit.hours(1), 1);
        due("seated no more", lit.count(7), 6);
        due("worn", lit.bulb(0, 2), 24);
        due("dark then", lit.hours(1), 1);
    }

    // Promise 10: "Then (it BURNED or not) each LOOSE one is SEATED no more, if 3 more than FIGURE divides HOUR."
    static void p10AnOutLooseOneToo() {
        OneIsOut x = out(at(2, "10"), 0);
        x.hours(1);
        due("seated", x.bulb(0, 4), 0);
        OneIsOut y = at(998, "10 16");
        out(y, 0, 1);
        y.hours(1);
        due("hour 999: 3 and 9 divide it", y.count(7), 0);
    }
}
