/** Edges of promises 26 to 29: what sort one is, by wear, frost and shares. */
final class EdgesOfSorts extends Edges {
    private static final int ALL_SORTS = 255;
    private static final int ALL_FIGURES = 1023;

    // ---- 26: whatIs

    // Promise 26: "-1, -11, -12 (no ROW)."
    static void p26NoSuchShelf() {
        for (int d : outside(0, 7)) {
            for (int what = -1; what <= 2; what++) {
                int w = what;
                refused(-1, "whatIs(" + d + ", 0, " + w + ")", Edges::rich, x -> x.whatIs(d, 0, w));
            }
        }
    }

    // Promise 26: "Answers of several REFUSALS are the first one as they are told at the call."
    static void p26NoSuchBulbOrWhatAheadOfAllElse() {
        for (int d = 0; d <= 5; d++) {
            int shelf = d;
            for (int b : outside(0, 7)) {
                refused(-1, "whatIs(" + d + ", " + b + ", 0)", Edges::rich, x -> x.whatIs(shelf, b, 0));
                refused(-1, "whatIs(" + d + ", " + b + ", 1)", Edges::rich, x -> x.whatIs(shelf, b, 1));
            }
            for (int what : outside(0, 1)) {
                refused(-1, "whatIs(" + d + ", 0, " + what + ")", Edges::rich, x -> x.whatIs(shelf, 0, what));
            }
        }
        due("of none", fill(new OneIsOut(), 0, 0).whatIs(0, 0, 0), -1);
    }

    // Promise 26: "-1, -11, -12 (no ROW)."
    static void p26NothingAndABulb() {
        for (int what = 0; what <= 1; what++) {
            int w = what;
            refused(-11, "whatIs(4, 7, " + w + ")", Edges::rich, x -> x.whatIs(4, 7, w));
            refused(-12, "whatIs(1, 7, " + w + ")", Edges::rich, x -> x.whatIs(1, 7, w));
        }
    }

    // Promise 26: "all of it is so"
    static void p26NothingTold() {
        for (int kind = 0; kind < 3; kind++) {
            due("sorts", fill(of("49"), 0, kind).whatIs(0, 0, 0), ALL_SORTS);
            due("figures", fill(of("49"), 0, kind).whatIs(0, 0, 1), ALL_FIGURES);
        }
        inMind(ALL_SORTS, "whatIs(5, 7, 0)", Edges::rich, x -> x.whatIs(5, 7, 0));
        inMind(ALL_FIGURES, "whatIs(5, 7, 1)", Edges::rich, x -> x.whatIs(5, 7, 1));
    }

    // Promise 26: "WHAT SORT: a ROW tells WORN of one behind 0, 1, .. HOURS"
    static void p26Now() {
        for (int kind = 0; kind < 3; kind++) {
            due("so now", fill(worn(of("09"), 99), 0, kind, 99).whatIs(0, 0, 0), ALL_SORTS);
            due("one more", fill(worn(of("09"), 99), 0, kind, 100).whatIs(0, 0, 0), 0);
            due("one less", fill(worn(of("09"), 99), 0, kind, 98).whatIs(0, 0, 1), 0);
        }
        due("999", fill(worn(of("09"), 999), 0, 1, 999, 999).whatIs(0, 0, 0), ALL_SORTS);
    }

    // Promise 26: "SORTS (bits) of it by which all of it is so; FIGURES (bits 0 .. 9)."
    static void p26BehindOneHour() {
        // Alone 60 VOLTS: 64 a BULB, LOOSE or BLINKER, 61 COLD, 60 SHORTED, 63 PAINTED, 68 SPARE, 65 LAST.
        int[] worn = {59, 60, 61, 62, 63, 64, 65, 66, 67, 68, 69};
        int[] sorts = {0, 8, 4, 0, 32, 19, 128, 0, 0, 64, 0};
        for (int k = 0; k < worn.length; k++) {
            OneIsOut x = fill(of("09"), 0, 0, 0, worn[k]);
            due("sorts by " + worn[k], x.whatIs(0, 0, 0), sorts[k]);
            due("figures by " + worn[k], x.whatIs(0, 0, 1), worn[k] == 64 ? ALL_FIGURES : 0);
        }
        OneIsOut x = fill(of("69"), 0, 0, 0, 68);
        due("FIGURES 8 and 9 by 2 are 4", x.whatIs(0, 0, 1), 768);
        due("the least FIGURES of two", fill(of("69"), 0, 0, 0, 64).whatIs(0, 0, 1), 3);
    }

    // Promise 26: "(the least number of the ROW's kind is skipped)"
    static void p26TheLeastNumberIsSkipped() {
        for (int kind = 0; kind < 3; kind++) {
            OneIsOut x = fill(of("09"), 0, kind, LEAST[kind], 64);
            due("the first", x.whatIs(0, 0, 0), 19);
            due("the last", fill(of("09"), 0, kind, 0, LEAST[kind]).whatIs(0, 0, 0), ALL_SORTS);
            due("one above it", fill(of("09"), 0, kind, LEAST[kind] + 1).whatIs(0, 0, 0), 0);
            due("all of them", fill(of("09"), 0, kind, same(100, LEAST[kind])).whatIs(0, 0, 1), ALL_FIGURES);
            due("the greatest is not", fill(of("09"), 0, kind, -(LEAST[kind] + 1)).whatIs(0, 0, 0), 0);
        }
        due("of bytes, among shorts", fill(of("09"), 0, 1, -128).whatIs(0, 0, 0), 0);
        due("of shorts, among ints", fill(of("09"), 0, 2, -32768).whatIs(0, 0, 0), 0);
        due("the lowest bits of -32768 among bytes", fill(of("09"), 0, 0, -32768).whatIs(0, 0, 0), ALL_SORTS);
    }

    // Promise 26: "0 .. 100 elements"
    static void p26BehindNinetyNineHours() {
        for (int kind = 1; kind < 3; kind++) {
            int[] told = same(100, LEAST[kind]);
            told[99] = 192;
            // 64 an hour: FIGURES 7 .. 9 are OUT behind three.
            due("figures", fill(of("09"), 0, kind, told).whatIs(0, 0, 1), 896);
            told[99] = 193;
            due("figures", fill(of("09"), 0, kind, told).whatIs(0, 0, 1), 0);
        }
    }

    // Promise 26: "In mind, n HOURS on"
    static void p26NothingIsSo() {
        // Five wear 16 an hour, a SPARE of FIGURE 0, too; a LOOSE one of FIGURE 0 or 1 hangs too soon.
        inMind(65, "sorts", () -> fill(at(2, "10 09 09 09 09"), 0, 1, 0, 16, LEAST[1], 48), x -> x.whatIs(0, 0, 0));
        inMind(1020, "figures", () -> fill(at(2, "10 09 09 09 09"), 0, 1, 0, 16, LEAST[1], 48),
                x -> x.whatIs(0, 0, 1));
    }

    // Promise 26: "(HOUR may pass 999 there)"
    static void p26TheHourMayPass999() {
        // Hour 1000: a BULB, a LOOSE one and a SPARE of FIGURE 0 wear 34; 3, 6, 7, 9 and 11 do not divide it.
        inMind(67, "sorts", () -> fill(at(999, "40 09"), 0, 1, 0, 34), x -> x.whatIs(0, 0, 0));
        inMind(690, "figures", () -> fill(at(999, "40 09"), 0, 1, 0, 34), x -> x.whatIs(0, 0, 1));
    }

    // ---- 27: wornFrom

    // Promise 27: "-1, -11, -12."
    static void p27NoSuchShelf() {
        for (int d : outside(0, 7)) {
            for (int what = -1; what <= 3; what++) {
                int w = what;
                refused(-1, "wornFrom(" + d + ", 0, " + w + ")", Edges::rich, x -> x.wornFrom(d, 0, w));
            }
        }
    }

    // Promise 27: "Answers of several REFUSALS are the first one as they are told at the call."
    static void p27NoSuchBulbOrWhatAheadOfAllElse() {
        for (int d = 0; d <= 5; d++) {
            int shelf = d;
            for (int b : outside(0, 7)) {
                refused(-1, "wornFrom(" + d + ", " + b + ", 0)", Edges::rich, x -> x.wornFrom(shelf, b, 0));
            }
            for (int what : outside(0, 2)) {
                refused(-1, "wornFrom(" + d + ", 0, " + what + ")", Edges::rich, x -> x.wornFrom(shelf, 0, what));
            }
        }
        due("of none", fill(new OneIsOut(), 0, 0).wornFrom(0, 0, 0), -1);
    }

    // Promise 27: "-1, -11, -12."
    static void p27NothingAndABulb() {
        for (int what = 0; what <= 2; what++) {
            int w = what;
            refused(-11, "wornFrom(4, 7, " + w + ")", Edges::rich, x -> x.wornFrom(4, 7, w));
            refused(-12, "wornFrom(1, 7, " + w + ")", Edges::rich, x -> x.wornFrom(1, 7, w));
        }
    }

    private static void wornFrom(OneIsOut x, int many, int least, int greatest) {
        due("how many", x.wornFrom(0, 0, 0), many);
        due("the least", x.wornFrom(0, 0, 1), least);
        due("the greatest", x.wornFrom(0, 0, 2), greatest);
    }

    // Promise 27: "WORN (0 .. 99) it could have now so that all of it is so: how many; the least; the greatest; -4."
    static void p27FromNoneToNinetyNine() {
        wornFrom(fill(of("09"), 0, 1, 63), 0, -4, -4);
        wornFrom(fill(of("09"), 0, 1, 64), 1, 0, 0);
        wornFrom(fill(of("09"), 0, 1, 65), 1, 1, 1);
        wornFrom(fill(of("09"), 0, 1, 162), 1, 98, 98);
        wornFrom(fill(of("09"), 0, 1, 163), 1, 99, 99);
        wornFrom(fill(of("09"), 0, 1, 164), 0, -4, -4);
    }

    // Promise 27: "WORN (0 .. 99) it could have now so that all of it is so"
    static void p27NothingTold() {
        for (int kind = 0; kind < 3; kind++) {
            wornFrom(fill(of("09"), 0, kind), 100, 0, 99);
            wornFrom(fill(worn(of("09"), 999), 0, kind), 100, 0, 99);
            wornFrom(fill(out(of("09"), 0), 0, kind), 100, 0, 99);
        }
        inMind(100, "wornFrom(5, 7, 0)", Edges::rich, x -> x.wornFrom(5, 7, 0));
        inMind(0, "wornFrom(5, 7, 1)", Edges::rich, x -> x.wornFrom(5, 7, 1));
        inMind(99, "wornFrom(5, 7, 2)", Edges::rich, x -> x.wornFrom(5, 7, 2));
    }

    // Promise 27: "a ROW tells likewise, behind 1, 2, .. HOURS"
    static void p27TheFirstToldIsBehindOneHour() {
        // Dark: WORN is as it was behind each HOUR.
        wornFrom(fill(out(of("09 09"), 1), 0, 0, 0, 0), 1, 0, 0);
        wornFrom(fill(out(of("09 09"), 1), 0, 0, 99), 1, 99, 99);
        wornFrom(fill(out(of("09 09"), 1), 0, 0, 100), 0, -4, -4);
        wornFrom(fill(out(of("09 09"), 1), 0, 0, 5, 6), 0, -4, -4);
        wornFrom(fill(out(of("09 09"), 1), 0, 0, -1), 0, -4, -4);
        // OUT behind one HOUR from 86 of 150 on, so 150 .. 163 stay; else one HOUR more of 64.
        wornFrom(fill(of("09"), 0, 1, 150, 150), 1, 86, 86);
        wornFrom(fill(of("09"), 0, 1, 149, 149), 0, -4, -4);
        wornFrom(fill(of("09"), 0, 1, 149, 213), 1, 85, 85);
    }

    // Promise 27: "(the least number of the ROW's kind is skipped)"
    static void p27TheLeastNumberIsSkipped() {
        for (int kind = 0; kind < 3; kind++) {
            wornFrom(fill(of("09"), 0, kind, LEAST[kind]), 100, 0, 99);
            wornFrom(fill(of("09"), 0, kind, 70, LEAST[kind]), 1, 6, 6);
            wornFrom(fill(of("09"), 0, kind, LEAST[kind] + 1), 0, -4, -4);
            wornFrom(fill(of("09"), 0, kind, same(100, LEAST[kind])), 100, 0, 99);
        }
        // Behind two HOURS: 128 more, or 64 for what was OUT behind the first.
        wornFrom(fill(of("09"), 0, 2, MIN, 160), 2, 32, 96);
    }

    // Promise 27: "0 .. 100 elements"
    static void p27BehindAHundredHours() {
        int[] told = same(100, MIN);
        told[99] = 192;
        // 64 an hour of 150: 0 goes OUT behind three; 64 would behind two.
        wornFrom(fill(of("09"), 0, 2, told), 2, 0, 64);
        told[99] = 163;
        wornFrom(fill(of("09"), 0, 2, told), 2, 35, 99);
    }

    // Promise 27: "WORN (0 .. 99) it could have now"
    static void p27NothingIsSo() {
        inMind(1, "wornFrom(0, 0, 0)", () -> fill(worn(of("09"), 500), 0, 1, 64), x -> x.wornFrom(0, 0, 0));
        inMind(0, "wornFrom(0, 0, 1)", () -> fill(worn(at(999, "41"), 500), 0, 1, 64), x -> x.wornFrom(0, 0, 1));
    }

    // ---- 28: frost

    private static void frost(OneIsOut x, int n, int t, long above, long below) {
        due("above, " + n + ", " + t, x.frost(0, n, t, 0), above);
        due("below, " + n + ", " + t, x.frost(0, n, t, 1), below);
    }

    // Promise 28: "Refused as told: -1."
    static void p28NoSuchBulb() {
        for (int b : outside(0, 7)) {
            refused(LONG_REFUSED, "frost(" + b + ", 0, 2, 0)", Edges::rich, x -> x.frost(b, 0, 2, 0));
            refused(LONG_REFUSED, "frost(" + b + ", 7, 20, 1)", Edges::rich, x -> x.frost(b, 7, 20, 1));
        }
        due("of none", new OneIsOut().frost(0, 0, 2, 0), LONG_REFUSED);
        due("the tenth", of(TEN).frost(9, 0, 2, 0), 1);
        due("the eleventh", of(TEN).frost(10, 0, 2, 0), LONG_REFUSED);
    }

    // Promise 28: "FROST: in each of n HOURS (0 .. 7)"
    static void p28TooFewAndTooManyHours() {
        for (int n : outside(0, 7)) {
            refused(LONG_REFUSED, "frost(0, " + n + ", 2, 0)", Edges::rich, x -> x.frost(0, n, 2, 0));
        }
        frost(of("09"), 0, 2, 1, 1);
        frost(out(of("09"), 0), 0, 2, 0, 1);
        frost(of("09"), 7, 2, 0, 1);
        frost(out(of("09 30"), 0), 7, 20, 0, 1);
    }

    // Promise 28: "with odds 1 in t (2 .. 20)"
    static void p28TheLeastAndTheMostOdds() {
        for (int t : outside(2, 20)) {
            refused(LONG_REFUSED, "frost(0, 1, " + t + ", 0)", Edges::rich, x -> x.frost(0, 1, t, 0));
        }
        refused(LONG_REFUSED, "frost(0, 1, 0, 0)", Edges::rich, x -> x.frost(0, 1, 0, 0));
        // 64 of 100, or 124 with frost.
        frost(of("04"), 1, 2, 1, 2);
        frost(of("04"), 1, 3, 2, 3);
        frost(of("04"), 1, 19, 18, 19);
        frost(of("04"), 1, 20, 19, 20);
    }

    // Promise 28: "Of longs they are 1000000000 less them (-1 is told as 1000000001)."
    static void p28NoSuchPart() {
        for (int part : outside(0, 1)) {
            refused(1000000001L, "frost(0, 1, 2, " + part + ")", Edges::rich, x -> x.frost(0, 1, 2, part));
        }
    }

    // Promise 28: "how likely a BULB is WHOLE behind these: a fraction in least terms"
    static void p28SevenHoursAtTheMostOdds() {
        // Ten wear 11 an hour, 17 with frost: 119 behind seven with frost, and 113 with one without.
        OneIsOut all = worn(of("79 79 79 79 79 79 79 79 79 79"), 141);
        frost(all, 7, 20, 1279999999L, 1280000000L);
        frost(all, 7, 2, 127, 128);
        OneIsOut never = worn(of("79 79 79 79 79 79 79 79 79 79"), 140);
        frost(never, 7, 20, 1, 1);
        // 77 without any frost, 83 with one: just none will do. 19 by 20, seven times.
        OneIsOut none = worn(of("79 79 79 79 79 79 79 79 79 79"), 177);
        frost(none, 7, 20, 893871739L, 1280000000L);
        OneIsOut sure = worn(of("79 79 79 79 79 79 79 79 79 79"), 183);
        frost(sure, 7, 20, 0, 1);
    }

    // Promise 28: "VOLTS are twice as many"
    static void p28VoltsAreCutAheadOfTheFrost() {
        // Eight: 7 VOLTS, 14 with frost (not 15).
        String eight = "09 09 09 09 09 09 09 09";
        frost(worn(of(eight), 131), 1, 2, 1, 1);
        frost(worn(of(eight), 132), 1, 2, 1, 2);
        frost(worn(of(eight), 138), 1, 2, 1, 2);
        frost(worn(of(eight), 139), 1, 2, 0, 1);
    }

    // Promise 28: "VOLTS are 60 by how many BULBS are WHOLE, cut (0, if none is)"
    static void p28NoVolts() {
        frost(out(of("30 39"), 0), 2, 2, 0, 1);
        due("the other, 120 of 150 with frost or 60", out(of("30 39"), 0).frost(1, 1, 2, 0), 1);
        due("two: 120, 180 and 240", out(of("30 39"), 0).frost(1, 2, 2, 0), 1);
        due("by", out(of("30 39"), 0).frost(1, 2, 2, 1), 4);
    }

    // Promise 28: "(HOUR may pass 999 there)"
    static void p28TheHourMayPass999() {
        inMind(1, "dark in hour 1000", () -> at(999, "40"), x -> x.frost(0, 1, 2, 0));
        inMind(0, "OUT in hour 1001", () -> at(999, "40"), x -> x.frost(0, 2, 2, 0));
        inMind(1, "frost(0, 2, 2, 1)", () -> at(999, "40"), x -> x.frost(0, 2, 2, 1));
        inMind(rich().frost(0, 7, 20, 0), "frost(0, 7, 20, 0)", Edges::rich, x -> x.frost(0, 7, 20, 0));
    }

    // ---- 29: share

    // Promise 29: "Refused as told: -1."
    static void p29NoSuchBulb() {
        for (int b : outside(0, 7)) {
            refused(LONG_REFUSED, "share(" + b + ", 0)", Edges::rich, x -> x.share(b, 0));
            refused(LONG_REFUSED, "share(" + b + ", 1)", Edges::rich, x -> x.share(b, 1));
        }
        due("of none", new OneIsOut().share(0, 0), LONG_REFUSED);
        due("of none", new OneIsOut().share(0, 1), LONG_REFUSED);
    }

    // Promise 29: "Of longs they are 1000000000 less them (-1 is told as 1000000001)."
    static void p29NoSuchPart() {
        for (int part : outside(0, 1)) {
            refused(1000000001L, "share(0, " + part + ")", Edges::rich, x -> x.share(0, part));
        }
    }

    // Promise 29: "a fraction in least terms (0 by 1, if that is 0)"
    static void p29NobodyIsWorn() {
        OneIsOut x = of(TEN);
        for (int b = 0; b < 10; b++) {
            due("above", x.share(b, 0), 0);
            due("below", x.share(b, 1), 1);
        }
    }

    // Promise 29: "SHARE: WORN of one by that of all: a fraction in least terms"
    static void p29NoneAllAndTheMost() {
        OneIsOut x = worn(of("00 00"), 999, 0);
        due("all", x.share(0, 0), 1);
        due("all", x.share(0, 1), 1);
        due("none", x.share(1, 0), 0);
        due("none", x.share(1, 1), 1);
        OneIsOut ten = worn(of(TEN), same(10, 999));
        due("one of ten", ten.share(9, 0), 1);
        due("one of ten", ten.share(9, 1), 10);
        OneIsOut most = worn(of("00 00"), 998, 999);
        due("998", most.share(0, 0), 998);
        due("1997", most.share(0, 1), 1997);
        due("OUT ones too", out(worn(of("00 00"), 6, 4), 0, 1).share(0, 0), 3);
        inMind(1, "share(0, 0)", () -> worn(of("00 00"), 5, 5), y -> y.share(0, 0));
    }
}
