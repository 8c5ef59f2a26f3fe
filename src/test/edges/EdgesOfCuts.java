/** Edges of promises 21 to 25: spares to buy, cuts, beats, ends. */
final class EdgesOfCuts extends Edges {

    // ---- 21: buy

    // Promise 21: "BUY; -4. -1."
    static void p21TooFewAndTooMany() {
        for (int n : outside(0, 60)) {
            refused(-1, "buy(" + n + ")", Edges::rich, x -> x.buy(n));
            due("buy(" + n + ") of none", new OneIsOut().buy(n), -1);
        }
    }

    // Promise 21: "THE STRING BURNS in each of the next n HOURS (0 .. 60)"
    static void p21NoneAndSixty() {
        due("none, empty", new OneIsOut().buy(0), 0);
        due("one, empty", new OneIsOut().buy(1), -4);
        due("none, dark", out(of("00 40"), 0).buy(0), 0);
        due("sixty, shorted", of("30").buy(60), 0);
        due("sixty, shorted and OUT", out(of("30 39"), 0, 1).buy(60), 0);
        due("sixty, one alone", of("49").buy(60), -4);
        due("it blinks in the next one", at(1, "40 09").buy(1), -4);
        due("it blinks in the next but one", at(999, "41 09 09 09 09").buy(3), -4);
        due("up to that", at(999, "41 09 09 09 09").buy(2), 0);
    }

    // Promise 21: "the least SPARES (0 .. 9) with which THE STRING BURNS"
    static void p21FromNoneToNine() {
        // One alone: a bulb lasts two hours, each spare three, by 66 an hour of 150.
        int[] needs = {0, 0, 0, 1, 1, 1, 2, 2, 2, 3};
        for (int n = 0; n < needs.length; n++) {
            due("buy(" + n + ")", of("04").buy(n), needs[n]);
        }
        due("eight", of("04").buy(26), 8);
        due("nine", of("04").buy(27), 9);
        due("nine", of("04").buy(29), 9);
        due("ten", of("04").buy(30), -4);
        due("sixty", of("04").buy(60), -4);
    }

    // Promise 21: "if ahead of each HOUR BULBS that are OUT become SPARES of FIGURE 5, by numbers, while there are
    // SPARES (as by a TWIST, in no time); -4."
    static void p21AllOutAtOnce() {
        due("nine of nine", out(of(TEN.substring(3)), 0, 1, 2, 3, 4, 5, 6, 7, 8).buy(1), 9);
        due("nine of ten", out(of(TEN), 1, 2, 3, 4, 5, 6, 7, 8, 9).buy(1), 9);
        due("ten of ten", out(of(TEN), 0, 1, 2, 3, 4, 5, 6, 7, 8, 9).buy(1), -4);
        due("the first spare goes to the first", out(of("30 09"), 0, 1).buy(1), 2);
        due("the first spare goes to the first", out(of("09 30"), 0, 1).buy(1), 1);
        due("shorted ones lead OUT", out(of("30 30"), 0, 1).buy(60), 0);
    }

    // Promise 21: "BUY: the least SPARES (0 .. 9)"
    static void p21ItsOwnSparesAreNoMatter() {
        for (int own = 0; own <= 9; own++) {
            OneIsOut x = of("04");
            x.spares(own);
            due("own " + own, x.buy(3), 1);
            due("own still", x.count(3), own);
        }
    }

    // Promise 21: "the least SPARES (0 .. 9) with which THE STRING BURNS in each of the next n HOURS"
    static void p21NothingIsSo() {
        inMind(1, "buy(3)", () -> of("04"), x -> x.buy(3));
        inMind(2, "buy(1)", () -> out(of("30 09"), 0, 1), x -> x.buy(1));
        inMind(-4, "buy(60)", () -> at(999, "40"), x -> x.buy(60));
    }

    // Promise 21: "(as by a TWIST, in no time)"
    static void p21ASpareIsAsNew() {
        // Loose 0 hangs and is OUT; the spare in its socket is SEATED and WORN 0: 36 an hour of 150.
        OneIsOut x = out(at(2, "10 09"), 0);
        x.hours(1);
        worn(x, 999, 0);
        due("buy(1)", x.buy(1), 1);
        due("five hours, both are OUT behind them", x.buy(5), 1);
        due("six", x.buy(6), 3);
    }

    // ---- 22: light

    // Promise 22: "-1 (k below 0, not less than BULBS but for 0)."
    static void p22NoSuchCut() {
        for (int k : outside(0, 7)) {
            refused(-1, "light(" + k + ", 1)", Edges::rich, x -> x.light(k, 1));
        }
        for (int k : outside(0, 9)) {
            refused(-1, "light(" + k + ", 0)", Edges::full, x -> x.light(k, 0));
        }
        due("the last cut of ten", of(TEN).light(9, 1), 10);
        due("none of one", of("09").light(0, 1), 1);
        due("no cut of one", of("09").light(1, 1), -1);
        due("none of none", new OneIsOut().light(0, 30), 0);
        due("no cut of none", new OneIsOut().light(1, 30), -1);
        due("below of none", new OneIsOut().light(-1, 30), -1);
    }

    // Promise 22: "LIGHT with a cut at k (0 none;"
    static void p22NoCut() {
        due("two as one", of("09 09").light(0, 30), 10);
        due("two by themselves", of("09 09").light(1, 30), 6);
        due("the second is OUT, uncut", out(of("09 09"), 1).light(0, 30), 0);
        due("the second is OUT, cut", out(of("09 09"), 1).light(1, 30), 3);
    }

    // Promise 22: "of the next n HOURS (0 .. 30)"
    static void p22NoneAndThirty() {
        for (int n : outside(0, 30)) {
            refused(-1, "light(0, " + n + ")", Edges::rich, x -> x.light(0, n));
            refused(-1, "light(1, " + n + ")", Edges::rich, x -> x.light(1, n));
            due("light(0, " + n + ") of none", new OneIsOut().light(0, n), -1);
        }
        OneIsOut x = of("39 39 39 39 39 39 39 39 39 39");
        due("none", x.light(0, 0), 0);
        due("none, cut", x.light(5, 0), 0);
        // 6 an hour of 150: all are WHOLE as hour 25 begins, none in 26.
        due("25", x.light(0, 25), 250);
        due("26", x.light(0, 26), 250);
        due("30", x.light(0, 30), 250);
        due("24", x.light(0, 24), 240);
        // 10 ones of 260, 11 an hour: they last 24 hours; cut in halves 17 an hour, 16 hours.
        OneIsOut last = of("79 79 79 79 79 79 79 79 79 79");
        due("23", last.light(0, 23), 230);
        due("30", last.light(0, 30), 240);
        due("30, cut", last.light(5, 30), 160);
        due("30, one and nine", last.light(1, 30), 4 + 9 * 24);
    }

    // Promise 22: "are STRINGS of their own, each BURNS by its own and has VOLTS by its own"
    static void p22EachByItsOwn() {
        OneIsOut x = out(of("09 09 09"), 0);
        due("whole: dark", x.light(0, 30), 0);
        due("ahead of 1: two lit, 34 of 150", x.light(1, 30), 10);
        due("ahead of 2: one lit, 64 of 150", x.light(2, 30), 3);
        due("both lit", of("09 09 09").light(1, 2), 6);
        due("the first is OUT behind three", of("09 09 09").light(1, 30), 3 + 10);
        due("uncut: 24 of 150, seven hours", of("09 09 09").light(0, 30), 21);
    }

    // Promise 22: "all BULBS together that are WHOLE as an HOUR begins, in a STRING that BURNS in it"
    static void p22AShortedOneThatIsOut() {
        due("OUT in a string that burns", out(of("30 09 09"), 0).light(0, 1), 2);
        due("alone", out(of("30 09 09"), 0).light(1, 1), 2);
        due("all OUT", out(of("30 30"), 0, 1).light(0, 30), 0);
        due("OUT behind the hour, told", of("00").light(0, 1), 1);
        due("OUT then", of("00").light(0, 2), 1);
    }

    // Promise 22: "Then (it BURNED or not) each LOOSE one is SEATED no more, if 3 more than FIGURE divides HOUR."
    static void p22LooseInEitherPart() {
        // 3 divides hour 3; five lit are 16 an hour more.
        due("ahead of the cut", of("10 09 09 09 09 09").light(5, 4), 15 + 3);
        due("behind the cut", of("09 09 09 09 09 10").light(1, 4), 3 + 15);
        due("behind a dark part", out(at(2, "09 10 09 09"), 0).light(1, 2), 3);
    }

    // Promise 22: "(HOUR may pass 999 there)"
    static void p22TheHourMayPass999() {
        inMind(0, "light(0, 1)", () -> at(999, "40"), x -> x.light(0, 1));
        inMind(1, "light(0, 2)", () -> at(999, "40"), x -> x.light(0, 2));
        inMind(2, "light(1, 2)", () -> at(999, "40 40"), x -> x.light(1, 2));
        inMind(rich().light(3, 30), "light(3, 30)", Edges::rich, x -> x.light(3, 30));
    }

    // ---- 23: split

    // Promise 23: "SPLIT: k (what 0), LIGHT (1). -1."
    static void p23TooFewAndTooMany() {
        for (int n : outside(0, 30)) {
            refused(-1, "split(" + n + ", 0)", Edges::rich, x -> x.split(n, 0));
            refused(-1, "split(" + n + ", 1)", Edges::rich, x -> x.split(n, 1));
            due("split(" + n + ", 0) of none", new OneIsOut().split(n, 0), -1);
        }
    }

    // Promise 23: "-1 no such one, one twice, a number out of its range"
    static void p23NoSuchWhat() {
        for (int what : outside(0, 1)) {
            refused(-1, "split(0, " + what + ")", Edges::rich, x -> x.split(0, what));
            refused(-1, "split(30, " + what + ")", Edges::rich, x -> x.split(30, what));
        }
    }

    // Promise 23: "SPLIT: the k with most LIGHT, of several the least; that."
    static void p23OfSeveralTheLeast() {
        due("no hours: all alike", of(TEN).split(0, 0), 0);
        due("no hours", of(TEN).split(0, 1), 0);
        due("one hour: all alike", of(TEN).split(1, 0), 0);
        due("one hour", of(TEN).split(1, 1), 10);
        due("1 and 2 alike", out(of("09 09 09"), 1).split(3, 0), 1);
        due("1 and 2 alike", out(of("09 09 09"), 1).split(3, 1), 3);
        due("of none", new OneIsOut().split(30, 0), 0);
        due("of none", new OneIsOut().split(30, 1), 0);
        due("of one", of("09").split(30, 0), 0);
        due("of one", of("09").split(30, 1), 3);
    }

    // Promise 23: "1 .. one less than BULBS"
    static void p23TheFirstAndTheLastCut() {
        due("the first is OUT", out(of(TEN), 0).split(1, 0), 1);
        due("the first is OUT", out(of(TEN), 0).split(1, 1), 9);
        due("the last is OUT", out(of(TEN), 9).split(1, 0), 9);
        due("the last is OUT", out(of(TEN), 9).split(1, 1), 9);
        due("both are OUT", out(of(TEN), 0, 9).split(30, 0), 0);
        due("both are OUT", out(of(TEN), 0, 9).split(30, 1), 0);
    }

    // Promise 23: "of the next n HOURS (0 .. 30)"
    static void p23ThirtyHours() {
        OneIsOut x = of("39 39 39 39 39 39 39 39 39 39");
        due("k", x.split(30, 0), 0);
        due("light", x.split(30, 1), 250);
        inMind(0, "split(30, 0)", () -> at(999, "39 39"), y -> y.split(30, 0));
        // Two by 30 an hour of 150: five hours.
        inMind(10, "split(30, 1)", () -> at(999, "39 39"), y -> y.split(30, 1));
        inMind(rich().split(30, 1), "split(30, 1)", Edges::rich, y -> y.split(30, 1));
    }

    // ---- 24: beat

    // Promise 24: "-1."
    static void p24NoSuchBulb() {
        for (int b : outside(0, 7)) {
            refused(-1, "beat(" + b + ", 0, 0)", Edges::rich, x -> x.beat(b, 0, 0));
            refused(-1, "beat(" + b + ", 60, 1)", Edges::rich, x -> x.beat(b, 60, 1));
        }
        due("of none", new OneIsOut().beat(0, 0, 0), -1);
        due("the tenth", of(TEN).beat(9, 1, 1), 1);
        due("the eleventh", of(TEN).beat(10, 1, 1), -1);
    }

    // Promise 24: "in most of the next n HOURS (0 .. 60)"
    static void p24TooFewAndTooMany() {
        for (int n : outside(0, 60)) {
            refused(-1, "beat(0, " + n + ", 0)", Edges::rich, x -> x.beat(0, n, 0));
            refused(-1, "beat(7, " + n + ", 1)", Edges::rich, x -> x.beat(7, n, 1));
        }
    }

    // Promise 24: "-1 no such one, one twice, a number out of its range"
    static void p24NoSuchWhat() {
        for (int what : outside(0, 1)) {
            refused(-1, "beat(0, 0, " + what + ")", Edges::rich, x -> x.beat(0, 0, what));
            refused(-1, "beat(7, 60, " + what + ")", Edges::rich, x -> x.beat(7, 60, what));
        }
    }

    // Promise 24: "BEAT: the FIGURE (0 .. 9) of a BULB now with which THE STRING BURNS in most of the next n HOURS
    // (0 .. 60), of several the least; in how many."
    static void p24NoneAndSixty() {
        due("no hours", of("49").beat(0, 0, 0), 0);
        due("no hours", of("49").beat(0, 0, 1), 0);
        due("for ever", out(of("39"), 0).beat(0, 60, 1), 60);
        due("for ever", out(of("39"), 0).beat(0, 60, 0), 0);
        due("59", out(of("39"), 0).beat(0, 59, 1), 59);
        due("dark", out(of("09 40"), 0).beat(1, 60, 0), 0);
        due("dark", out(of("09 40"), 0).beat(1, 60, 1), 0);
    }

    // Promise 24: "the FIGURE (0 .. 9) of a BULB now"
    static void p24TheLeastAndTheMostFigure() {
        // 10 an hour: the most FIGURE of ten lasts 15 hours, and does not blink but in hours 11 and 22.
        String others = " 79 79 79 79 79 79 79 79 79";
        due("the most", of("40" + others).beat(0, 60, 0), 9);
        due("the most", of("40" + others).beat(0, 60, 1), 15);
        // In the hour 1000 the FIGURES 1, 4, 5, 7 and 9 do not blink; in 998 (2 and 499) the least does.
        due("in 1000", at(999, "49").beat(0, 1, 0), 1);
        due("in 1000", at(999, "49").beat(0, 1, 1), 1);
        due("in 999", at(998, "49").beat(0, 1, 0), 0);
        due("in 998", at(997, "49").beat(0, 1, 0), 1);
        // 3 and 11 divide 66: 1 and 9 blink, 2 too, by 4 not.
        due("in 66", at(65, "40").beat(0, 1, 0), 2);
    }

    // Promise 24: "of several the least"
    static void p24OfSeveralTheLeast() {
        due("one hour, all alike", of("49").beat(0, 1, 0), 0);
        // 64 an hour: FIGURES 0 last one hour, 1 .. 6 two, 7 .. 9 three.
        due("two hours", of("09").beat(0, 2, 0), 1);
        due("two hours", of("09").beat(0, 2, 1), 2);
        due("three hours", of("09").beat(0, 3, 0), 7);
        due("three hours", of("09").beat(0, 60, 0), 7);
        due("three hours", of("09").beat(0, 60, 1), 3);
    }

    // Promise 24: "of a BULB now"
    static void p24NothingIsSo() {
        inMind(7, "beat(0, 60, 0)", () -> of("09"), x -> x.beat(0, 60, 0));
        inMind(1, "beat(0, 1, 0)", () -> at(999, "49"), x -> x.beat(0, 1, 0));
        inMind(rich().beat(4, 60, 1), "beat(4, 60, 1)", Edges::rich, x -> x.beat(4, 60, 1));
    }

    // ---- 25: end

    // Promise 25: "END (what 0), that (1). -1."
    static void p25NoSuchWhat() {
        for (int what : outside(0, 1)) {
            refused(-1, "end(" + what + ")", Edges::rich, x -> x.end(what));
            due("of none", new OneIsOut().end(what), -1);
        }
    }

    // Promise 25: "the end with less, alike 0; that"
    static void p25Alike() {
        due("none", new OneIsOut().end(0), 0);
        due("none", new OneIsOut().end(1), 0);
        due("one", worn(of("00"), 999).end(0), 0);
        due("one", worn(of("00"), 999).end(1), 0);
        due("two", worn(of("00 00"), 7, 7).end(0), 0);
        due("two", worn(of("00 00"), 7, 7).end(1), 8);
        due("ten", of(TEN).end(0), 0);
        due("ten", of(TEN).end(1), 45);
        due("ten, worn", worn(of(TEN), same(10, 999)).end(1), 45000);
    }

    // Promise 25: "END: SOCKETS from the first BULB (0), from the last (1), times WORN and 1, of all together"
    static void p25OneMoreOnEitherSide() {
        due("the last is worn more", worn(of("00 00"), 0, 1).end(0), 1);
        due("the last is worn more", worn(of("00 00"), 0, 1).end(1), 1);
        due("the first is worn more", worn(of("00 00"), 1, 0).end(0), 0);
        due("the first is worn more", worn(of("00 00"), 1, 0).end(1), 1);
        due("the tenth at the most", worn(of(TEN), 0, 0, 0, 0, 0, 0, 0, 0, 0, 999).end(0), 1);
        due("the tenth at the most", worn(of(TEN), 0, 0, 0, 0, 0, 0, 0, 0, 0, 999).end(1), 45);
        due("the first at the most", worn(of(TEN), 999).end(0), 0);
        due("the first at the most", worn(of(TEN), 999).end(1), 45);
        inMind(rich().end(1), "end(1)", Edges::rich, x -> x.end(1));
    }
}
