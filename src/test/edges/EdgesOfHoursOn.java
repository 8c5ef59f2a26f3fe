/** Edges of promises 11 to 15: hours on. */
final class EdgesOfHoursOn extends Edges {

    /** A string that burns for ever, LIT 999 at HOUR 999. */
    private static OneIsOut burntOut() {
        OneIsOut x = out(of("30"), 0);
        pass(x, 999);
        return x;
    }

    // ---- 11: then

    // Promise 11: "In mind, n HOURS on (0 .. 60)"
    static void p11NoneAndSixty() {
        OneIsOut x = worn(of("09 09"), 1, 2);
        due("whole now", x.then(0, 0), 3);
        due("lit now", x.then(0, 1), 0);
        due("worn now", x.then(0, 2), 3);
        due("whole behind one", x.then(1, 0), 3);
        due("lit behind one", x.then(1, 1), 1);
        due("worn behind one", x.then(1, 2), 71);
        // 34 an hour: 171 and 172 behind five.
        due("whole behind 60", x.then(60, 0), 0);
        due("lit behind 60", x.then(60, 1), 5);
        due("worn behind 60", x.then(60, 2), 343);
        due("lit for ever", out(of("30"), 0).then(60, 1), 60);
    }

    // Promise 11: "-1."
    static void p11TooFewAndTooMany() {
        for (int n : outside(0, 60)) {
            for (int what = 0; what <= 2; what++) {
                int w = what;
                refused(-1, "then(" + n + ", " + w + ")", Edges::rich, x -> x.then(n, w));
            }
        }
    }

    // Promise 11: "-1 no such one, one twice, a number out of its range"
    static void p11NoSuchWhat() {
        for (int what : outside(0, 2)) {
            refused(-1, "then(0, " + what + ")", Edges::rich, x -> x.then(0, what));
            refused(-1, "then(60, " + what + ")", Edges::rich, x -> x.then(60, what));
        }
    }

    // Promise 11: "(HOUR may pass 999 there)"
    static void p11TheHourMayPass999() {
        // 2 divides hour 1000, not 1001: it burns then, and is OUT.
        OneIsOut x = at(999, "40");
        due("dark in 1000", x.then(1, 1), 0);
        due("whole in 1000", x.then(1, 0), 1);
        due("burnt in 1001", x.then(2, 1), 1);
        due("OUT in 1001", x.then(2, 0), 0);
        due("worn", x.then(2, 2), 64);
        due("worn in 1059", x.then(60, 2), 64);
        due("the hour stays", x.count(1), 999);
        inMind(1, "then(60, 1)", () -> at(999, "40"), y -> y.then(60, 1));
    }

    // Promise 11: "LIT is 1 more (999 at most)"
    static void p11LitUpToItsMost() {
        OneIsOut x = burntOut();
        due("count(2)", x.count(2), 999);
        due("none", x.then(0, 1), 999);
        due("one", x.then(1, 1), 999);
        due("sixty", x.then(60, 1), 999);
        OneIsOut y = out(of("30"), 0);
        pass(y, 960);
        due("960 and 39", y.then(39, 1), 999);
        due("960 and 40", y.then(40, 1), 999);
    }

    // Promise 11: "each BULB that is WHOLE is its GLOW and VOLTS more WORN (999 at most)"
    static void p11WornUpToItsMost() {
        OneIsOut x = worn(of(TEN), same(10, 999));
        due("ten now", x.then(0, 2), 9990);
        due("ten then", x.then(1, 2), 9990);
        due("whole then", x.then(1, 0), 0);
        due("989 and 10", worn(of(TEN), same(10, 989)).then(1, 2), 9990);
        due("988 and 10", worn(of(TEN), same(10, 988)).then(1, 2), 9980);
    }

    // Promise 11: "THE STRING BURNS in it, if there is a BULB and all LEAD then."
    static void p11NoBulb() {
        for (int what = 0; what <= 2; what++) {
            due("then(60, " + what + ")", new OneIsOut().then(60, what), 0);
        }
    }

    // Promise 11: "In mind, n HOURS on (0 .. 60)"
    static void p11NothingIsSo() {
        inMind(15, "then(2, 0)", () -> of("09 09 39 10"), x -> x.then(2, 0));
        for (int what = 0; what <= 2; what++) {
            int w = what;
            inMind(rich().then(60, w), "then(60, " + w + ")", Edges::rich, x -> x.then(60, w));
        }
    }

    // ---- 12: wornThen

    // Promise 12: "In mind, n HOURS on (0 .. 60)"
    static void p12NoneAndSixty() {
        OneIsOut x = worn(of("09 09"), 1, 2);
        due("now", x.wornThen(0, 0), 1);
        due("behind one", x.wornThen(0, 1), 35);
        due("behind 60", x.wornThen(0, 60), 171);
        due("the last now", x.wornThen(1, 0), 2);
        due("the last behind 60", x.wornThen(1, 60), 172);
    }

    // Promise 12: "-1."
    static void p12NoSuchBulb() {
        for (int b : outside(0, 7)) {
            refused(-1, "wornThen(" + b + ", 0)", Edges::rich, x -> x.wornThen(b, 0));
            refused(-1, "wornThen(" + b + ", 61)", Edges::rich, x -> x.wornThen(b, 61));
        }
        due("of none", new OneIsOut().wornThen(0, 0), -1);
        due("the tenth", of(TEN).wornThen(9, 1), 10);
        due("the eleventh", of(TEN).wornThen(10, 1), -1);
    }

    // Promise 12: "-1 no such one, one twice, a number out of its range"
    static void p12TooFewAndTooMany() {
        for (int n : outside(0, 60)) {
            refused(-1, "wornThen(0, " + n + ")", Edges::rich, x -> x.wornThen(0, n));
        }
    }

    // Promise 12: "(HOUR may pass 999 there)"
    static void p12TheHourMayPass999() {
        inMind(0, "wornThen(0, 1)", () -> at(999, "40"), x -> x.wornThen(0, 1));
        inMind(64, "wornThen(0, 2)", () -> at(999, "40"), x -> x.wornThen(0, 2));
        inMind(64, "wornThen(0, 60)", () -> at(999, "40"), x -> x.wornThen(0, 60));
    }

    // Promise 12: "WORN (999 at most)"
    static void p12WornUpToItsMost() {
        due("934 and 64", worn(of("09"), 934).wornThen(0, 1), 998);
        due("935 and 64", worn(of("09"), 935).wornThen(0, 1), 999);
        due("936 and 64", worn(of("09"), 936).wornThen(0, 1), 999);
        due("999", worn(of("09"), 999).wornThen(0, 60), 999);
    }

    // ---- 13: goes

    // Promise 13: "-1 (b below -1, too)."
    static void p13NoSuchBulb() {
        for (int b : outside(-1, 7)) {
            refused(-1, "goes(" + b + ")", Edges::rich, x -> x.goes(b));
        }
        due("of none", new OneIsOut().goes(0), -1);
        due("of none, -2", new OneIsOut().goes(-2), -1);
        due("the tenth", of(TEN).goes(9), 15);
        due("the eleventh", of(TEN).goes(10), -1);
    }

    // Promise 13: "GOES: behind how many HOURS (0 .. 60) one is OUT first; -4"
    static void p13OutNowAndNever() {
        due("OUT now", out(of("09 09"), 1).goes(1), 0);
        due("dark for ever", out(of("09 09"), 1).goes(0), -4);
        due("behind one", of("00").goes(0), 1);
        due("behind two", of("01").goes(0), 2);
    }

    // Promise 13: "GOES: behind how many HOURS (0 .. 60) one is OUT first; -4"
    static void p13TheLongestThatOneLasts() {
        // Ten shorted ones wear 6 an hour: 150 behind 25.
        due("25 hours", of("39 39 39 39 39 39 39 39 39 39").goes(9), 25);
        due("and one more", worn(of("39 39 39 39 39 39 39 39 39 39"), 5).goes(0), 25);
        due("and one less", worn(of("39 39 39 39 39 39 39 39 39 39"), 6).goes(0), 24);
        due("one that blinks", at(999, "40").goes(0), 2);
    }

    /** Five that blink and a cold one, which the string wears by 7 of 30, and burns in few hours. */
    private static final String SELDOM_LIT = "41 42 43 45 49 20 79 79 79 79";

    // Promise 13: "GOES: behind how many HOURS (0 .. 60) one is OUT first; -4"
    static void p13OutBehindSixtyHours() {
        // Even hours that 3, 4, 5, 7 and 11 do not divide: 218, 226, 254, 262, 274, 278 and 298.
        due("the fifth is 274", at(214, SELDOM_LIT).goes(5), 60);
        due("an hour on", at(215, SELDOM_LIT).goes(5), 59);
        due("the fifth is 298", at(238, SELDOM_LIT).goes(5), 60);
        due("an hour ahead", at(237, SELDOM_LIT).goes(5), -4);
        due("dark behind it", at(214, SELDOM_LIT).goes(0), -4);
        due("sixty hours on", at(214, SELDOM_LIT).then(60, 0), 1023 - 32);
        due("sixty hours on, an hour ahead", at(237, SELDOM_LIT).then(60, 0), 1023);
    }

    // Promise 13: "GOES (-4); NEXT (b -1; -4)."
    static void p13NextBehindSixtyHours() {
        due("behind 60", at(214, SELDOM_LIT).goes(-1), 5);
        due("behind 60", at(238, SELDOM_LIT).goes(-1), 5);
        due("behind 61", at(237, SELDOM_LIT).goes(-1), -4);
    }

    // Promise 13: "NEXT: who of those WHOLE now, of several the least; -4."
    static void p13NextOfSeveralTheLeast() {
        due("the first", of("01 01 01").goes(-1), 0);
        due("the last two", of("09 01 01").goes(-1), 1);
        due("those WHOLE now", out(of("30 09 01 01"), 0).goes(-1), 2);
        due("all ten", worn(of(TEN), 0, 0, 0, 0, 0, 0, 0, 0, 0, 1).goes(-1), 0);
        due("the tenth", worn(of(TEN), 0, 0, 0, 0, 0, 0, 0, 0, 0, 10).goes(-1), 9);
    }

    // Promise 13: "NEXT: who of those WHOLE now, of several the least; -4."
    static void p13NextByGlowAndVolts() {
        // 34 an hour of 150: five hours, 35 of 140: four.
        due("the brighter one", of("09 73").goes(-1), 1);
        // 30 of 110: four hours, 34 of 150: five.
        due("the one that does not glow", of("35 09").goes(-1), 0);
    }

    // Promise 13: "GOES (-4); NEXT (b -1; -4)."
    static void p13NextOfNone() {
        due("empty", new OneIsOut().goes(-1), -4);
        due("dark for ever", out(of("09 09"), 0).goes(-1), -4);
        due("all OUT", out(of("30 30"), 0, 1).goes(-1), -4);
    }

    // Promise 13: "In mind, n HOURS on (0 .. 60) (HOUR may pass 999 there)"
    static void p13NothingIsSo() {
        // It burns in hours 1001 and 1003, by 34 each.
        inMind(4, "goes(0)", () -> at(999, "40 39"), x -> x.goes(0));
        inMind(0, "goes(-1)", () -> at(999, "40 39"), x -> x.goes(-1));
        inMind(rich().goes(-1), "goes(-1)", Edges::rich, x -> x.goes(-1));
    }

    // ---- 14: dark

    // Promise 14: "DARK: the first of the next HOURS 1 .. 60 in which THE STRING does not BURN; -4."
    static void p14AtOnce() {
        due("empty", new OneIsOut().dark(), 1);
        due("one is OUT", out(of("09"), 0).dark(), 1);
        due("behind one", of("00").dark(), 2);
        due("it blinks", of("40").dark(), 2);
        due("cold at once", of("20").dark(), 1);
        due("loose", of("10 09 09 09 09").dark(), 4);
    }

    // Promise 14: "DARK; -4."
    static void p14Never() {
        due("shorted", of("30").dark(), -4);
        due("shorted, OUT", out(of("30 39"), 0, 1).dark(), -4);
        due("shorted, at 999", at(999, "30").dark(), -4);
    }

    // Promise 14: "(HOUR may pass 999 there)"
    static void p14TheHourMayPass999() {
        // 3 divides hour 1002.
        inMind(3, "dark()", () -> at(999, "41 09 09"), OneIsOut::dark);
        inMind(1, "dark()", () -> at(999, "40 09 09"), OneIsOut::dark);
        inMind(rich().dark(), "dark()", Edges::rich, OneIsOut::dark);
    }

    // Promise 14: "DARK: the first of the next HOURS 1 .. 60 in which THE STRING does not BURN; -4."
    static void p14TheLatestThatComesAbout() {
        // Ten of them wear 11 an hour: 264 behind 24, and their life is 260.
        due("LAST ones", of("79 79 79 79 79 79 79 79 79 79").dark(), 25);
    }

    // ---- 15: lights

    // Promise 15: "-1."
    static void p15NoSuchWhat() {
        for (int what : outside(0, 4)) {
            refused(-1, "lights(" + what + ")", Edges::rich, x -> x.lights(what));
            due("of none", new OneIsOut().lights(what), -1);
        }
    }

    // Promise 15: "THE STRING BURNS in it, if there is a BULB and all LEAD then."
    static void p15OfNoBulb() {
        int[] answers = {0, 0, 0, 0, -4};
        for (int what = 0; what < 5; what++) {
            due("lights(" + what + ")", new OneIsOut().lights(what), answers[what]);
        }
    }

    // Promise 15: "1 THE STRING BURNS in the next HOUR, 0 (what 0)"
    static void p15BurnsInTheHourBehindTheLast() {
        due("one", of("00").lights(0), 1);
        due("the last of ten is OUT", out(of(TEN), 9).lights(0), 0);
        due("the first of ten is OUT", out(of(TEN), 0).lights(0), 0);
        due("hour 1000", at(999, "40").lights(0), 0);
        due("hour 999", at(998, "40").lights(0), 1);
        due("hour 999", at(998, "41").lights(0), 0);
    }

    // Promise 15: "FAULTS: BULBS (bits) that do not LEAD in the next HOUR."
    static void p15NoFaultAndAll() {
        due("none", of(TEN).lights(1), 0);
        due("all", out(of(TEN), 0, 1, 2, 3, 4, 5, 6, 7, 8, 9).lights(1), 1023);
        due("the last", out(of(TEN), 9).lights(1), 512);
        due("the first", out(of(TEN), 0).lights(1), 1);
        due("in hour 1000", at(999, "40 41 43 20 00").lights(1), 5);
    }

    // Promise 15: "BROWN: BULBS (bits) WORN half of their LIFE (cut) or more."
    static void p15BrownAtHalfItsLifeCut() {
        String each = "00 10 21 30 40 51 60 71 23 29";
        // Lives 60, 60, 35, 60, 60, 50, 150, 100, 45, 75.
        due("one less", worn(of(each), 29, 29, 16, 29, 29, 24, 74, 49, 21, 36).lights(2), 0);
        due("half", worn(of(each), 30, 30, 17, 30, 30, 25, 75, 50, 22, 37).lights(2), 1023);
        due("OUT ones too", out(worn(of("00 00"), 30, 29), 0, 1).lights(2), 1);
        due("at the most", worn(of("79"), 999).lights(2), 1);
    }

    // Promise 15: "LONGEST: the most HOURS one behind the other of the next 60 in which THE STRING BURNS."
    static void p15LongestOfNoneAndOfAll() {
        due("none", out(of("09"), 0).lights(3), 0);
        due("one", of("00").lights(3), 1);
        due("all", of("30").lights(3), 60);
        due("all at 999", at(999, "30").lights(3), 60);
        // 6 from the hour 1 on, dark in 7 and 14 and so on, and OUT behind eleven: 10 and 9 an hour.
        due("the first", worn(of("45 09 09 09 09 09 09 09 09 09"), 0).lights(3), 6);
        due("the second", at(5, "45 09 09 09 09 09 09 09 09 09").lights(3), 6);
        due("the second, cut short", worn(at(3, "45 09 09 09 09 09 09 09 09 09"), 40).lights(3), 4);
        due("both alike", worn(at(3, "45 09 09 09 09 09 09 09 09 09"), 50).lights(3), 3);
        inMind(60, "lights(3)", () -> at(999, "30"), x -> x.lights(3));
        inMind(rich().lights(3), "lights(3)", Edges::rich, x -> x.lights(3));
    }

    // Promise 15: "WEAKEST: the WHOLE one with least of its LIFE left (LIFE less WORN), of several the least; -4."
    static void p15WeakestOfNoneAndOfSeveral() {
        due("all OUT", out(of(TEN), 0, 1, 2, 3, 4, 5, 6, 7, 8, 9).lights(4), -4);
        due("one is WHOLE", out(of("00 09"), 0).lights(4), 1);
        due("of several", of("09 00 00").lights(4), 1);
        due("of all", of(TEN).lights(4), 0);
        due("the last", worn(of("09 09 09"), 0, 1, 2).lights(4), 2);
    }

    // Promise 15: "LIFE less WORN"
    static void p15WeakestWithNothingLeft() {
        due("0 and 1 left", worn(of("00 00"), 59, 60).lights(4), 1);
        due("0 left and 1 too much", worn(of("00 00 00"), 60, 61, 60).lights(4), 1);
        due("as much too much as can be", worn(of("79 20 00"), 999, 999, 999).lights(4), 1);
    }
}
