/** Edges of promises 16 to 20: tools in mind, halves, orders, suspects. */
final class EdgesOfTools extends Edges {

    // ---- 16: tool

    // Promise 16: "-1 (i above j, too)."
    static void p16NoSuchTool() {
        for (int tool : outside(0, 4)) {
            for (int what = 0; what <= 2; what++) {
                int w = what;
                refused(-1, "tool(" + tool + ", 0, 0, " + w + ")", Edges::rich, x -> x.tool(tool, 0, 0, w));
            }
        }
    }

    // Promise 16: "-1 no such one, one twice, a number out of its range"
    static void p16NoSuchWhat() {
        for (int tool = 0; tool <= 4; tool++) {
            int t = tool;
            for (int what : outside(0, 2)) {
                refused(-1, "tool(" + t + ", 0, 0, " + what + ")", Edges::rich, x -> x.tool(t, 0, 0, what));
            }
        }
    }

    // Promise 16: "-1 (i above j, too)."
    static void p16NoSuchBulb() {
        for (int tool = 0; tool <= 4; tool++) {
            for (int b : outside(0, 7)) {
                int t = tool;
                refused(-1, "tool(" + t + ", " + b + ", 7, 1)", Edges::rich, x -> x.tool(t, b, 7, 1));
                refused(-1, "tool(" + t + ", 0, " + b + ", 1)", Edges::rich, x -> x.tool(t, 0, b, 1));
            }
            due("of none", new OneIsOut().tool(tool, 0, 0, 1), -1);
        }
    }

    // Promise 16: "-1 (i above j, too)."
    static void p16IAboveJ() {
        int[] seconds = {2, 1, 3, 6, 8};
        for (int tool = 0; tool <= 4; tool++) {
            for (int what = 0; what <= 2; what++) {
                int t = tool;
                int w = what;
                refused(-1, "tool(" + t + ", 5, 4, " + w + ")", Edges::rich, x -> x.tool(t, 5, 4, w));
            }
            due("i is j", of("00 00").tool(tool, 1, 1, 1), seconds[tool] + 1);
        }
    }

    // Promise 16: "It takes what is told here and the SOCKETS from THE HAND to i (SECONDS); THE HAND is at i then, of
    // NEEDLE and WIRE at j."
    static void p16FromEndToEnd() {
        int[] seconds = {2, 1, 12, 24, 8};
        int[] back = {2, 1, 3, 6, 8};
        for (int tool = 0; tool <= 4; tool++) {
            OneIsOut x = of(TEN);
            due("seconds of " + tool, x.tool(tool, 0, 9, 1), seconds[tool]);
            due("hand of " + tool, x.tool(tool, 0, 9, 2), tool == 2 || tool == 3 ? 9 : 0);
            due("nine on by " + tool, x.tool(tool, 9, 9, 1), back[tool] + 9);
            due("hand of " + tool, x.tool(tool, 9, 9, 2), 9);
            x.use(2, 0, 9);
            due("nine back by " + tool, x.tool(tool, 0, 0, 1), back[tool] + 9);
            due("nine back by " + tool, x.tool(tool, 0, 9, 1), seconds[tool] + 9);
            due("hand of " + tool, x.tool(tool, 0, 0, 2), 0);
        }
    }

    // Promise 16: "A TOOL in mind: what it tells (what 0), SECONDS it takes (1), where THE HAND is then (2)."
    static void p16NothingIsSo() {
        for (int tool = 0; tool <= 4; tool++) {
            for (int what = 0; what <= 2; what++) {
                int t = tool;
                int w = what;
                long answer = looseOnes().tool(t, 1, 2, w);
                inMind(answer, "tool(" + t + ", 1, 2, " + w + ")", EdgesOfTools::looseOnes, x -> x.tool(t, 1, 2, w));
            }
        }
        due("a knock in mind", looseOnes().tool(1, 1, 2, 0), 1);
        due("of another", looseOnes().tool(1, 0, 2, 0), 0);
    }

    /** Three bulbs, 1 and no other hangs loose. */
    private static OneIsOut looseOnes() {
        return hang(knocked(), "00");
    }

    private static OneIsOut knocked() {
        OneIsOut x = out(at(2, "00 10"), 0);
        x.hours(1);
        return out(x, 0);
    }

    // Promise 16: "0 LOOK 2: WORN of BULB i is half of its LIFE (cut) or more."
    static void p16LookAtHalfItsLifeCut() {
        due("16 of 35", worn(of("21 00"), 16, 999).tool(0, 0, 1, 0), 0);
        due("17 of 35", worn(of("21 00"), 17, 0).tool(0, 0, 1, 0), 1);
        due("29 of 60", worn(of("21 00"), 0, 29).tool(0, 1, 1, 0), 0);
        due("30 of 60", worn(of("21 00"), 0, 30).tool(0, 1, 1, 0), 1);
    }

    // Promise 16: "3 WIRE 6 plus twice (j less i): all BULBS but i .. j LEAD."
    static void p16WireAndNeedleAtTheEnds() {
        OneIsOut x = out(of("00 00 00 00"), 1, 2);
        due("just so", x.tool(3, 1, 2, 0), 1);
        due("less", x.tool(3, 1, 1, 0), 0);
        due("less", x.tool(3, 2, 3, 0), 0);
        due("all", x.tool(3, 0, 3, 0), 1);
        due("needle ahead", x.tool(2, 0, 0, 0), 1);
        due("needle up to it", x.tool(2, 0, 1, 0), 0);
        due("needle behind", x.tool(2, 3, 3, 0), 1);
        due("needle from it", x.tool(2, 2, 3, 0), 0);
        due("all, OUT", out(x, 0, 3).tool(3, 0, 3, 0), 1);
        due("all but the first", x.tool(3, 1, 3, 0), 0);
        due("all but the last", x.tool(3, 0, 2, 0), 0);
    }

    // Promise 16: "4 SPARE 8: all BULBS but i LEAD."
    static void p16ASpareOfOneAlone() {
        OneIsOut x = out(of("00"), 0);
        x.spares(0);
        due("no other, no SPARES", x.tool(4, 0, 0, 0), 1);
        due("knock", x.tool(1, 0, 0, 0), 0);
        OneIsOut two = out(of("00 00"), 0);
        due("0", two.tool(4, 0, 1, 0), 1);
        due("1", two.tool(4, 1, 1, 0), 0);
    }

    // Promise 16: "what it tells (1, else 0) is by the next HOUR as all is now"
    static void p16ByTheHourBehindTheLast() {
        int[] at999 = {0, 0, 0, 0, 0};
        int[] at998 = {0, 1, 1, 1, 1};
        for (int tool = 0; tool <= 4; tool++) {
            int other = tool == 2 ? 0 : 1;
            due("hour 1000 by " + tool, at(999, "40 00").tool(tool, other, 1, 0), at999[tool]);
            due("hour 999 by " + tool, at(998, "40 00").tool(tool, other, 1, 0), at998[tool]);
            // 3 divides 999, not 998 or 1000.
            due("3, hour 999 by " + tool, at(998, "41 00").tool(tool, other, 1, 0), at999[tool]);
            due("3, hour 1000 by " + tool, at(999, "41 00").tool(tool, other, 1, 0), at998[tool]);
        }
    }

    // Promise 16: "SECONDS (0 .. 9999; 0 at first; never more)"
    static void p16ItTakesWhatItTakesAtTheMost() {
        OneIsOut x = EdgesOfTheString.of9990Seconds();
        due("one", x.tool(1, 9, 9, 1), 1);
        due("33", x.tool(3, 0, 9, 1), 33);
        x.use(3, 0, 9);
        due("count(4)", x.count(4), 9999);
        due("33", x.tool(3, 0, 9, 1), 33);
        due("count(4)", x.count(4), 9999);
    }

    // ---- 17: halves

    // Promise 17: "-1 (a above b, too)."
    static void p17NoSuchStretch() {
        for (int what = 0; what <= 1; what++) {
            int w = what;
            for (int b : outside(0, 7)) {
                refused(-1, "halves(" + b + ", 7, " + w + ")", Edges::rich, x -> x.halves(b, 7, w));
                refused(-1, "halves(0, " + b + ", " + w + ")", Edges::rich, x -> x.halves(0, b, w));
                refused(-1, "halves(" + b + ", " + b + ", " + w + ")", Edges::rich, x -> x.halves(b, b, w));
            }
            refused(-1, "halves(1, 0, " + w + ")", Edges::rich, x -> x.halves(1, 0, w));
            refused(-1, "halves(7, 6, " + w + ")", Edges::rich, x -> x.halves(7, 6, w));
            due("of none", new OneIsOut().halves(0, 0, w), -1);
        }
    }

    // Promise 17: "-1 no such one, one twice, a number out of its range"
    static void p17NoSuchWhat() {
        for (int what : outside(0, 1)) {
            refused(-1, "halves(0, 7, " + what + ")", Edges::rich, x -> x.halves(0, 7, what));
            refused(-1, "halves(3, 3, " + what + ")", Edges::rich, x -> x.halves(3, 3, what));
        }
    }

    // Promise 17: "-4 (a is b)"
    static void p17OfOneAlone() {
        OneIsOut x = of(TEN);
        for (int b = 0; b < 10; b++) {
            due("worst", x.halves(b, b, 0), 0);
            due("cut", x.halves(b, b, 1), -4);
        }
        inMind(-4, "halves(4, 4, 1)", Edges::rich, y -> y.halves(4, 4, 1));
        inMind(0, "halves(4, 4, 0)", Edges::rich, y -> y.halves(4, 4, 0));
    }

    // Promise 17: "(k from a to b less 1)"
    static void p17OfTwoTheCutIsTheFirst() {
        for (int a = 0; a < 9; a++) {
            due("cut", of(TEN).halves(a, a + 1, 1), a);
            due("worst", of(TEN).halves(a, a + 1, 0), 6);
        }
    }

    // Promise 17: "WORST: the fewest SECONDS that do at worst; CUT: the first k by which it is so, of several the least"
    static void p17OfTwoToTen() {
        int[] worst = {0, 0, 6, 12, 14, 20, 22, 24, 26, 32, 34};
        int[] cut = {0, 0, 0, 0, 1, 0, 1, 2, 3, 0, 1};
        OneIsOut x = of(TEN);
        for (int length = 2; length <= 10; length++) {
            for (int a : new int[] {0, 10 - length}) {
                due("worst of " + length + " from " + a, x.halves(a, a + length - 1, 0), worst[length]);
                due("cut of " + length + " from " + a, x.halves(a, a + length - 1, 1), a + cut[length]);
            }
        }
    }

    // Promise 17: "(as if; all else no matter)"
    static void p17AllElseIsNoMatter() {
        OneIsOut x = worn(out(of("00 00 00 00"), 0, 1, 2, 3), 999, 0, 0, 0);
        x.use(2, 3, 3);
        due("worst", x.halves(0, 3, 0), 14);
        due("cut", x.halves(0, 3, 1), 1);
    }

    // ---- 18: mean

    // Promise 18: "Refused as told: -1 (a above b, too)."
    static void p18NoSuchStretch() {
        for (int part = 0; part <= 1; part++) {
            int p = part;
            for (int b : outside(0, 7)) {
                refused(LONG_REFUSED, "mean(" + b + ", 7, " + p + ")", Edges::rich, x -> x.mean(b, 7, p));
                refused(LONG_REFUSED, "mean(0, " + b + ", " + p + ")", Edges::rich, x -> x.mean(0, b, p));
                refused(LONG_REFUSED, "mean(" + b + ", " + b + ", " + p + ")", Edges::rich, x -> x.mean(b, b, p));
            }
            refused(LONG_REFUSED, "mean(1, 0, " + p + ")", Edges::rich, x -> x.mean(1, 0, p));
            refused(LONG_REFUSED, "mean(7, 6, " + p + ")", Edges::rich, x -> x.mean(7, 6, p));
            due("of none", new OneIsOut().mean(0, 0, p), LONG_REFUSED);
        }
    }

    // Promise 18: "Of longs they are 1000000000 less them (-1 is told as 1000000001)."
    static void p18NoSuchPart() {
        for (int part : outside(0, 1)) {
            refused(1000000001L, "mean(0, 7, " + part + ")", Edges::rich, x -> x.mean(0, 7, part));
            refused(1000000001L, "mean(3, 3, " + part + ")", Edges::rich, x -> x.mean(3, 3, part));
        }
    }

    // Promise 18: "till it is found (one alone is)"
    static void p18OfOneAlone() {
        OneIsOut x = worn(of("00 00"), 999, 0);
        for (int b = 0; b <= 1; b++) {
            due("above", x.mean(b, b, 0), 0);
            due("below", x.mean(b, b, 1), 1);
        }
        inMind(0, "mean(7, 7, 0)", Edges::rich, y -> y.mean(7, 7, 0));
        inMind(1, "mean(7, 7, 1)", Edges::rich, y -> y.mean(7, 7, 1));
    }

    // Promise 18: "MEAN: with odds by WORN and 1 of each the fewest SECONDS on the mean: a fraction in least terms."
    static void p18OfTwoToTenAlike() {
        int[] above = {0, 0, 6, 10, 27, 82, 19, 150, 95, 26, 28};
        int[] below = {1, 1, 1, 1, 2, 5, 1, 7, 4, 1, 1};
        OneIsOut least = of(TEN);
        OneIsOut most = worn(of(TEN), same(10, 999));
        for (int length = 2; length <= 10; length++) {
            due("above of " + length, least.mean(10 - length, 9, 0), above[length]);
            due("below of " + length, least.mean(10 - length, 9, 1), below[length]);
            due("above of " + length + " at most", most.mean(0, length - 1, 0), above[length]);
            due("below of " + length + " at most", most.mean(0, length - 1, 1), below[length]);
        }
    }

    // Promise 18: "with odds by WORN and 1 of each"
    static void p18OneWornUpToTheMost() {
        // Odds 1000 and 9 of others: the fewest are tried out by themselves.
        OneIsOut first = worn(of(TEN), 999);
        due("above", first.mean(0, 9, 0), 6288);
        due("below", first.mean(0, 9, 1), 1009);
        OneIsOut last = worn(of(TEN), 0, 0, 0, 0, 0, 0, 0, 0, 0, 999);
        due("above", last.mean(0, 9, 0), 22432);
        due("below", last.mean(0, 9, 1), 1009);
        due("two", last.mean(8, 9, 0), 6);
        due("two", last.mean(8, 9, 1), 1);
    }

    // ---- 19: order

    // Promise 19: "-1 (a set below 0, of no BULB, of more than 5, too)."
    static void p19ASetBelowNoneOrOfNoBulb() {
        for (int what = 0; what <= 1; what++) {
            int w = what;
            for (int set : new int[] {-1, -2, MIN, MIN + 1, MAX, 256, 257, 1 << 30}) {
                refused(-1, "order(" + set + ", " + w + ")", Edges::rich, x -> x.order(set, w));
            }
            due("of none", new OneIsOut().order(1, w), -1);
            due("bulb 10 of ten", of(TEN).order(1024, w), -1);
        }
        due("bulb 7 of eight", of(TEN.substring(6)).order(128, 0), 17);
        due("bulb 9 of ten", of(TEN).order(512, 0), 19);
        due("seconds of it", of(TEN).order(512, 1), 17);
    }

    // Promise 19: "of more than 5, too"
    static void p19FiveAndSix() {
        OneIsOut x = of(TEN);
        due("five", x.order(31, 0), 101234);
        // 8, 17, 26, 35 and 44 together.
        due("seconds", x.order(31, 1), 130);
        due("five, the last", x.order(992, 0), 156789);
        // 13, 22, 31, 40 and 49 together.
        due("seconds", x.order(992, 1), 155);
        for (int set : new int[] {63, 1008, 1023, 991}) {
            refused(-1, "order(" + set + ", 0)", Edges::full, y -> y.order(set, 0));
            refused(-1, "order(" + set + ", 1)", Edges::full, y -> y.order(set, 1));
        }
    }

    // Promise 19: "ORDER: the number (what 0; 1 of none), SECONDS (1)."
    static void p19OfNone() {
        due("the number", of(TEN).order(0, 0), 1);
        due("seconds", of(TEN).order(0, 1), 0);
        due("the number of an empty string", new OneIsOut().order(0, 0), 1);
        due("seconds of an empty string", new OneIsOut().order(0, 1), 0);
    }

    // Promise 19: "-1 no such one, one twice, a number out of its range"
    static void p19NoSuchWhat() {
        for (int what : outside(0, 1)) {
            refused(-1, "order(3, " + what + ")", Edges::rich, x -> x.order(3, what));
            refused(-1, "order(0, " + what + ")", Edges::rich, x -> x.order(0, what));
        }
    }

    // Promise 19: "of several the first by numbers"
    static void p19OfSeveralTheFirstByNumbers() {
        OneIsOut x = of("00 00 00");
        x.use(0, 1, 1);
        due("0 and 2 alike", x.order(5, 0), 102);
        due("seconds", x.order(5, 1), 9 + 19);
        due("three", x.order(7, 0), 1102);
        due("seconds", x.order(7, 1), 8 + 17 + 27);
        OneIsOut y = worn(of("00 00 00"), 0, 0, 9);
        y.use(0, 1, 1);
        due("2 by its odds", y.order(5, 0), 120);
        due("seconds", y.order(5, 1), 90 + 19);
    }

    // Promise 19: "till it is found (the last one, too)"
    static void p19TheLastOneIsTriedToo() {
        OneIsOut x = worn(of("00 00"), 999, 999);
        due("one", x.order(1, 1), 8000);
        due("one", x.order(2, 1), 9000);
        due("two", x.order(3, 0), 101);
        due("two", x.order(3, 1), 8000 + 17000);
        OneIsOut ten = worn(of(TEN), same(10, 999));
        due("the farthest", ten.order(992, 1), 155000);
        inMind(10, "order(1, 0)", Edges::rich, y -> y.order(1, 0));
        inMind(21 * 12, "order(1, 1)", Edges::rich, y -> y.order(1, 1));
    }

    // ---- 20: suspects

    // Promise 20: "-1, -11, -12 (no ROW), -13 unwhole, no such BULB in it, i above j."
    static void p20NoSuchShelf() {
        for (int d : outside(0, 7)) {
            for (int what = -1; what <= 2; what++) {
                int w = what;
                refused(-1, "suspects(" + d + ", " + w + ")", Edges::rich, x -> x.suspects(d, w));
            }
        }
    }

    // Promise 20: "Answers of several REFUSALS are the first one as they are told at the call."
    static void p20NoSuchWhatAheadOfAllElse() {
        for (int what : outside(0, 1)) {
            for (int d : new int[] {0, 1, 2, 3, 4, 5}) {
                refused(-1, "suspects(" + d + ", " + what + ")", Edges::rich, x -> x.suspects(d, what));
            }
        }
    }

    // Promise 20: "-1, -11, -12 (no ROW), -13 unwhole, no such BULB in it, i above j."
    static void p20NothingAndABulb() {
        for (int what = 0; what <= 1; what++) {
            int w = what;
            refused(-11, "suspects(4, " + w + ")", Edges::rich, x -> x.suspects(4, w));
            refused(-12, "suspects(1, " + w + ")", Edges::rich, x -> x.suspects(1, w));
            refused(-12, "suspects(6, " + w + ")", Edges::rich, x -> x.suspects(6, w));
        }
    }

    // Promise 20: "-11, -12 (no ROW), -13 unwhole, no such BULB in it, i above j."
    static void p20WhatTheShelfHeldBeforeIsGone() {
        for (int[] wrong : new int[][] {{0}, {0, 9, 1}, {1, 0, 1}}) {
            OneIsOut x = fill(of("00 00"), 0, 0, wrong);
            due("a row", x.suspects(0, 0), -13);
            x.keep(0, 1, 0, 0);
            due("a bulb now", x.suspects(0, 0), -12);
            x.row(0, 0, 0);
            due("an empty row now", x.suspects(0, 0), 3);
            fill(x, 0, 0, wrong);
            x.keep(0, 0, 0, 0);
            due("nothing now", x.suspects(0, 0), -11);
        }
    }

    // Promise 20: "-13 unwhole"
    static void p20Unwhole() {
        OneIsOut x = of(TEN);
        for (int size : new int[] {1, 2, 4, 5, 98, 100}) {
            x.row(0, 0, size);
            due("of " + size, x.suspects(0, 0), -13);
            due("of " + size, x.suspects(0, 1), -13);
        }
        for (int size : new int[] {3, 6, 99}) {
            x.row(0, 0, size);
            due("of " + size, x.suspects(0, 0), 1022);
            due("of " + size, x.suspects(0, 1), 45);
        }
        refused(-13, "four", () -> fill(rich(), 5, 0, 0, 0, 1, 0), y -> y.suspects(5, 0));
    }

    // Promise 20: "-13 unwhole, no such BULB in it, i above j."
    static void p20NoSuchBulbInIt() {
        for (int what = 0; what <= 1; what++) {
            int w = what;
            for (int b : outside(0, 7)) {
                refused(-13, b + " .. 7", () -> fill(rich(), 5, 2, b, 7, 1), x -> x.suspects(5, w));
                refused(-13, "0 .. " + b, () -> fill(rich(), 5, 2, 0, b, 1), x -> x.suspects(5, w));
                refused(-13, b + " .. " + b, () -> fill(rich(), 5, 2, b, b, 1), x -> x.suspects(5, w));
            }
            due("of no BULBS", fill(new OneIsOut(), 0, 0, 0, 0, 1).suspects(0, w), -13);
        }
        due("the tenth", fill(of(TEN), 0, 0, 9, 9, 1).suspects(0, 0), 512);
        due("the eleventh", fill(of(TEN), 0, 0, 10, 10, 1).suspects(0, 0), -13);
    }

    // Promise 20: "i above j."
    static void p20IAboveJ() {
        refused(-13, "5 .. 4", () -> fill(rich(), 5, 1, 5, 4, 1), x -> x.suspects(5, 0));
        refused(-13, "5 .. 4", () -> fill(rich(), 5, 1, 5, 4, 1), x -> x.suspects(5, 1));
        due("4 .. 4", fill(of(TEN), 0, 1, 4, 4, 1).suspects(0, 0), 16);
        due("4 .. 5", fill(of(TEN), 0, 1, 4, 5, 1).suspects(0, 0), 48);
    }

    // Promise 20: "-13 a place that isn't there (a number or a size that isn't as told, too)"
    static void p20TheLastThreeOfAFullRow() {
        int[] threes = new int[99];
        for (int at = 0; at < 99; at += 3) {
            threes[at + 1] = 9;
            threes[at + 2] = 1;
        }
        due("all", fill(of(TEN), 0, 0, threes).suspects(0, 0), 1023);
        due("all", fill(of(TEN), 0, 0, threes).suspects(0, 1), 45);
        threes[96] = 9;
        due("the last alone", fill(of(TEN), 0, 0, threes).suspects(0, 0), 512);
        threes[97] = 10;
        due("no such", fill(of(TEN), 0, 0, threes).suspects(0, 0), -13);
        threes[97] = 8;
        due("i above j", fill(of(TEN), 0, 0, threes).suspects(0, 0), -13);
    }

    // Promise 20: "and 1, if a WIRE across BULBS i .. j told 1 (any other number: it told 0)"
    static void p20AnyOtherNumber() {
        for (int kind = 0; kind < 3; kind++) {
            for (int told : new int[] {0, -1, 2, 100, LEAST[kind], -(LEAST[kind] + 1)}) {
                OneIsOut x = fill(of("00 00 00 00"), 0, kind, 1, 2, told);
                due("told " + told, x.suspects(0, 0), 9);
                due("told " + told, x.suspects(0, 1), 5);
            }
            OneIsOut x = fill(of("00 00 00 00"), 0, kind, 1, 2, 1);
            due("told 1", x.suspects(0, 0), 6);
            due("told 1", x.suspects(0, 1), 1);
        }
    }

    // Promise 20: "BULBS (bits) of which each, did it alone not LEAD, makes all of it so"
    static void p20NothingTold() {
        for (int kind = 0; kind < 3; kind++) {
            due("of none", fill(new OneIsOut(), 0, kind).suspects(0, 0), 0);
            due("twos of none", fill(new OneIsOut(), 0, kind).suspects(0, 1), 0);
            due("of one", fill(of("00"), 0, kind).suspects(0, 0), 1);
            due("twos of one", fill(of("00"), 0, kind).suspects(0, 1), 0);
            due("of ten", fill(of(TEN), 0, kind).suspects(0, 0), 1023);
            due("twos of ten", fill(of(TEN), 0, kind).suspects(0, 1), 45);
        }
        inMind(255, "suspects(5, 0)", Edges::rich, x -> x.suspects(5, 0));
        inMind(28, "suspects(5, 1)", Edges::rich, x -> x.suspects(5, 1));
    }

    // Promise 20: "TWOS: how many twos of BULBS likewise, did just these not LEAD"
    static void p20TwosAcrossTheWireAndNot() {
        // A wire across one, told 1: two others can't both be in it.
        due("told 1 of one", fill(of(TEN), 0, 0, 0, 0, 1).suspects(0, 1), 0);
        due("told 1 of one", fill(of(TEN), 0, 0, 0, 0, 1).suspects(0, 0), 1);
        due("told 0 of one", fill(of(TEN), 0, 0, 9, 9, 0).suspects(0, 1), 45);
        due("told 0 of all", fill(of(TEN), 0, 0, 0, 9, 0).suspects(0, 0), 0);
        due("told 0 of all", fill(of(TEN), 0, 0, 0, 9, 0).suspects(0, 1), 0);
        due("told 1 and 0 of it", fill(of(TEN), 0, 0, 2, 5, 1, 2, 5, 0).suspects(0, 0), 0);
        due("told 1 of four", fill(of(TEN), 0, 0, 2, 5, 1).suspects(0, 1), 6);
    }
}
