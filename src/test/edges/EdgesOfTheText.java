/** Edges of promise 2: the text of a string. */
final class EdgesOfTheText extends Edges {
    /** One statement of each letter that is as it must be behind "b00;". */
    private static final String[] STATEMENTS = {"b00;", "w0000;", "o0;", "s0;", "t0;", "u000;", "h01;"};

    private static int told(String text) {
        return told(new OneIsOut(), text);
    }

    // ---- the shelf

    // Promise 2: "-1, -11, -12 (no ROW of bytes)."
    static void p2NoSuchShelf() {
        for (int d : outside(0, 7)) {
            refused(-1, "string(" + d + ")", Edges::rich, x -> x.string(d));
        }
    }

    // Promise 2: "-11 nothing is held where something is wanted"
    static void p2NothingThere() {
        refused(-11, "string(4)", Edges::rich, x -> x.string(4));
        refused(-11, "string(7)", Edges::rich, x -> x.string(7));
        for (int d = 0; d < 8; d++) {
            due("string(" + d + ") of a new one", new OneIsOut().string(d), -11);
        }
    }

    // Promise 2: "-1, -11, -12 (no ROW of bytes)."
    static void p2ABulbOrARowOfAnotherKind() {
        refused(-12, "a bulb", Edges::rich, x -> x.string(1));
        refused(-12, "shorts", Edges::rich, x -> x.string(2));
        refused(-12, "ints", Edges::rich, x -> x.string(3));
        due("a text of shorts", fill(new OneIsOut(), 0, 1, 'b', '0', '0', ';').string(0), -12);
        due("a text of ints", fill(new OneIsOut(), 0, 2, 'b', '0', '0', ';').string(0), -12);
        due("shorts, empty", fill(new OneIsOut(), 0, 1).string(0), -12);
        due("a text of bytes", fill(new OneIsOut(), 0, 0, 'b', '0', '0', ';').string(0), 1);
    }

    // Promise 2: "SHELVES 0 .. 7 each hold nothing (at first), a BULB, a ROW."
    static void p2TheLastShelf() {
        due("string(7)", fill(new OneIsOut(), 7, 0, 'b', '7', '9', ';').string(7), 1);
    }

    // ---- how many statements

    // Promise 2: "STATEMENTS, each with ";" behind, one at least"
    static void p2OneAtLeast() {
        due("none", told(""), -1000);
        refused(-1000, "none", Edges::rich, x -> x.string(5));
        due("one", told("s0;"), 1);
    }

    // Promise 2: "A ROW has a kind (0 bytes, 1 shorts, 2 ints) and 0 .. 100 elements, 0 at first"
    static void p2AFullRow() {
        OneIsOut x = new OneIsOut();
        due("31 statements", told(x, "b09;".repeat(7) + "o0;".repeat(24)), 31);
        due("count(0)", x.count(0), 7);
        due("count(6)", x.count(6), 127);
        due("33 in 99", told("s1;".repeat(33)), 33);
        due("a row of zeros", fill(new OneIsOut(), 0, 0, same(100, 0)).string(0), -1000);
    }

    // ---- letters and digits

    // Promise 2: ""b" SORT, FIGURE (a digit each): a BULB more"
    static void p2HangsTheLeastAndTheMost() {
        OneIsOut x = new OneIsOut();
        due("statements", told(x, "b00;b79;"), 2);
        due("sort", x.bulb(0, 0), 0);
        due("figure", x.bulb(0, 1), 0);
        due("sort", x.bulb(1, 0), 7);
        due("figure", x.bulb(1, 1), 9);
    }

    // Promise 2: ""w" a BULB (a digit), WORN (3 digits): it is so"
    static void p2WearsTheLeastAndTheMost() {
        OneIsOut x = out(of(TEN), 9);
        due("statements", told(x, "w0999;w9999;w1000;w2001;"), 4);
        due("worn 0", x.bulb(0, 2), 999);
        due("whole", x.bulb(0, 3), 1);
        due("worn 9", x.bulb(9, 2), 999);
        due("worn 2", x.bulb(2, 2), 1);
        due("none", told(x, "w0000;w9000;"), 2);
        due("worn 0", x.bulb(0, 2), 0);
        due("worn 9", x.bulb(9, 2), 0);
        due("OUT as it is", x.bulb(9, 3), 0);
    }

    // Promise 2: ""o" a BULB (a digit): OUT, or, told again, WHOLE"
    static void p2OutAndWholeAgain() {
        OneIsOut x = of(TEN);
        due("once", told(x, "o0;o9;"), 2);
        due("count(6)", x.count(6), 510);
        due("again", told(x, "o0;"), 1);
        due("count(6)", x.count(6), 511);
        due("twice", told(x, "o9;o9;"), 2);
        due("count(6)", x.count(6), 511);
        due("three times", told(x, "o9;o9;o9;"), 3);
        due("count(6)", x.count(6), 1023);
    }

    // Promise 2: ""s" SPARES (a digit): so many there are"
    static void p2SparesTheLeastAndTheMost() {
        OneIsOut x = new OneIsOut();
        due("9", told(x, "s9;"), 1);
        due("count(3)", x.count(3), 9);
        due("0", told(x, "s0;"), 1);
        due("count(3)", x.count(3), 0);
        due("the last stands", told(x, "s4;s7;"), 2);
        due("count(3)", x.count(3), 7);
    }

    // Promise 2: ""t" a BULB (a digit): a TWIST"
    static void p2TwistsTheFirstAndTheLast() {
        OneIsOut x = of(TEN);
        due("twists", told(x, "s9;t9;t0;"), 3);
        due("count(3)", x.count(3), 7);
        due("count(4)", x.count(4), 34);
        due("count(5)", x.count(5), 0);
        due("sort", x.bulb(0, 0), 6);
        due("figure", x.bulb(9, 1), 5);
    }

    // Promise 2: ""u" a TOOL, BULBS i and j (a digit each): it is used"
    static void p2UsesTheFirstAndTheLastTool() {
        OneIsOut x = of(TEN);
        due("look", told(x, "u099;"), 1);
        due("count(4)", x.count(4), 11);
        due("count(5)", x.count(5), 9);
        due("spare", told(x, "u400;"), 1);
        due("count(4)", x.count(4), 28);
        due("count(5)", x.count(5), 0);
        due("wire across all", told(x, "u309;"), 1);
        due("count(4)", x.count(4), 52);
        due("count(3)", x.count(3), 1);
    }

    // Promise 2: "SECONDS (0 .. 9999; 0 at first; never more)"
    static void p2SecondsNeverMore() {
        OneIsOut x = EdgesOfTheString.of9990Seconds();
        due("nine", told(x, "u299;u299;u299;"), 3);
        due("count(4)", x.count(4), 9999);
        due("more", told(x, "u000;t9;"), 2);
        due("count(4)", x.count(4), 9999);
    }

    // Promise 2: ""h" HOURS (2 digits, 1 .. 60)"
    static void p2HoursTheLeastAndTheMost() {
        OneIsOut x = new OneIsOut();
        due("00", told(x, "h00;"), -2000);
        due("01", told(x, "h01;"), 1);
        due("count(1)", x.count(1), 1);
        due("60", told(x, "h60;"), 1);
        due("count(1)", x.count(1), 61);
        due("61", told(x, "h61;"), -2000);
        due("99", told(x, "h99;"), -2000);
        due("count(1)", x.count(1), 61);
        due("10", told(x, "h10;"), 1);
        due("count(1)", x.count(1), 71);
    }

    // Promise 2: "numbers in THE TEXT have just as many digits as told"
    static void p2ADigitTooFewOrTooMany() {
        for (String statement : STATEMENTS) {
            int last = statement.length() - 1;
            String less = statement.substring(0, last - 1) + ";";
            String more = statement.substring(0, last) + "0;";
            due(less, told("b00;" + less), -1004 - (last - 1));
            due(more, told("b00;" + more), -1004 - last);
        }
    }

    // ---- kind 1

    // Promise 2: "kind 1 the place of the first byte with which no STRING can go on (the end, if something lacks): -1000
    // less the place"
    static void p2SomethingLacksAtTheEnd() {
        for (String statement : STATEMENTS) {
            for (int length = 1; length < statement.length(); length++) {
                String part = statement.substring(0, length);
                due(part, told(part), -1000 - length);
                due("b00;" + part, told("b00;" + part), -1004 - length);
            }
        }
        due("at the end of a full row", told("b00;" + "o0;".repeat(31) + "b00"), -1100);
    }

    // Promise 2: "kind 1 the place of the first byte with which no STRING can go on"
    static void p2EachByteAtEachPlace() {
        for (String statement : STATEMENTS) {
            for (int at = 0; at < statement.length(); at++) {
                int[] bytes = ("b00;" + statement).chars().toArray();
                for (int v = -128; v < 128; v++) {
                    if (!goesOn(statement, at, v)) {
                        bytes[4 + at] = v;
                        due(statement + " with " + v + " at " + at,
                                fill(new OneIsOut(), 0, 0, bytes).string(0), -1004 - at);
                    }
                }
            }
        }
    }

    private static boolean goesOn(String statement, int at, int v) {
        if (at == 0) {
            return v > 0 && "bwostuh".indexOf(v) >= 0;
        }
        return at == statement.length() - 1 ? v == ';' : v >= '0' && v <= '9';
    }

    // Promise 2: "the place of the first byte with which no STRING can go on"
    static void p2TheFirstAndTheLastByteOfAFullRow() {
        String full = "b09;".repeat(7) + "o0;".repeat(24);
        due("the last", told(full.substring(0, 99) + ":"), -1099);
        due("the last but one", told(full.substring(0, 98) + "/;"), -1098);
        due("the first", told("B" + full.substring(1)), -1000);
        due("the first of two", told("b0/" + full.substring(3, 99) + ":"), -1002);
    }

    // Promise 2: "else kind 2 the place of the letter of the first STATEMENT that is not as it must be"
    static void p2KindOneAheadOfKindTwo() {
        due("o0;x", told("o0;x"), -1003);
        due("o0;b", told("o0;b"), -1004);
        due("h61;b80;t", told("h61;b80;t"), -1009);
        due("o0;", told("o0;"), -2000);
    }

    // ---- kind 2

    // Promise 2: "a number out of range"
    static void p2ANumberOutOfRange() {
        due("sort 7", told("b79;"), 1);
        due("sort 8", told("b80;"), -2000);
        due("sort 9", told("b99;"), -2000);
        due("tool 4", told("b00;u400;"), 2);
        due("tool 5", told("b00;u500;"), -2004);
        due("tool 9", told("b00;u900;"), -2004);
        due("no hours", told("b00;h00;"), -2004);
        due("60 hours", told("b00;h60;"), 2);
        due("61 hours", told("b00;h61;"), -2004);
    }

    // Promise 2: "no such BULB"
    static void p2NoSuchBulb() {
        for (String statement : new String[] {"w0000;", "o0;", "t0;", "u000;"}) {
            due(statement, told(statement), -2000);
            due("b00;" + statement, told("b00;" + statement), 2);
        }
        due("w1000;", told("b00;w1000;"), -2004);
        due("o1;", told("b00;o1;"), -2004);
        due("t1;", told("b00;t1;"), -2004);
        due("u001;", told("b00;u001;"), -2004);
        due("u011;", told("b00;u011;"), -2004);
        due("b00;u001;", told("b00;b00;u001;"), 3);
        String nine = "b09;".repeat(9);
        due("o9; of nine", told(nine + "o9;"), -2036);
        due("o9; of ten", told(nine + "b09;o9;"), 11);
        due("u489; of nine", told(nine + "u489;"), -2036);
        due("u489; of ten", told(nine + "b09;u489;"), 11);
    }

    // Promise 2: "i above j"
    static void p2IAboveJ() {
        for (int tool = 0; tool <= 4; tool++) {
            due("u" + tool + "10;", told("b00;b00;u" + tool + "10;"), -2008);
            due("u" + tool + "11;", told("b00;b00;u" + tool + "11;"), 3);
        }
        due("u398;", told("b00;".repeat(10) + "u398;"), -2040);
    }

    // Promise 2: "no SPARES ("t")"
    static void p2NoSpares() {
        due("one of one", told("b00;t0;"), 2);
        due("two of one", told("b00;t0;t0;"), -2007);
        due("one of none", told("b00;s0;t0;"), -2007);
        due("nine of nine", told("b00;s9;" + "t0;".repeat(9)), 11);
        due("ten of nine", told("b00;s9;" + "t0;".repeat(10)), -2034);
    }

    // Promise 2: "HOUR above 999"
    static void p2HourAbove999() {
        due("939 and 60", told(at(939), "h60;"), 1);
        due("940 and 60", told(at(940), "h60;"), -2000);
        due("998 and 1", told(at(998), "h01;"), 1);
        due("999 and 1", told(at(999), "h01;"), -2000);
        due("940, 59 and 1", told(at(940), "h59;h01;"), -2004);
        due("no other number out of range", told(at(999), "h00;"), -2000);
    }

    // Promise 2: "hours() is refused (-3; in THE TEXT kind 2), if HOUR and n together are above 999; none of them
    // goes then."
    static void p2NoneOfTheHoursGoes() {
        refused(-2000, "h60; at 940", () -> write(at(940, "09 10"), "h60;"), x -> x.string(0));
        refused(-2004, "h59;h01; at 940", () -> write(at(940, "09 10"), "h59;h01;"), x -> x.string(0));
    }

    // Promise 2: "no room"
    static void p2NoRoom() {
        due("ten", told("b00;".repeat(10)), 10);
        due("eleven", told("b00;".repeat(11)), -2040);
        due("one on top of ten", told(of(TEN), "b00;"), -2000);
        due("two on top of nine", told(of(TEN.substring(3)), "b00;b00;"), -2004);
        due("one on top of nine", told(of(TEN.substring(3)), "b00;"), 1);
    }

    // Promise 2: "else kind 2 the place of the letter of the first STATEMENT that is not as it must be (a number out
    // of range, no such BULB, i above j, no SPARES ("t"), HOUR above 999, no room): -2000 less the place"
    static void p2TheFirstOfSeveralAndTheLastPlace() {
        due("of several the first", told("b00;o1;b80;h00;"), -2004);
        due("of two the first", told("h00;o1;"), -2000);
        due("the last of a full row", told("b00;" + "o0;".repeat(31) + "o1;"), -2097);
        due("the last that is done", told("b00;" + "o0;".repeat(31) + "o0;"), 33);
    }

    // Promise 2: "STATEMENTS are tried one behind the other, each on what those ahead of it made"
    static void p2EachOnWhatThoseAheadMade() {
        due("ahead of its bulb", told("o0;b00;"), -2000);
        due("behind its bulb", told("b00;o0;"), 2);
        due("spares ahead", told("b00;s0;s1;t0;"), 4);
        due("spares behind", told("b00;s0;t0;s1;"), -2007);
        OneIsOut x = new OneIsOut();
        due("an hour, a bulb, an hour", told(x, "h01;b09;h01;b09;o1;h01;"), 6);
        due("count(1)", x.count(1), 3);
        due("count(2)", x.count(2), 1);
        due("worn", x.bulb(0, 2), 64);
    }

    // ---- all of it, or nothing

    // Promise 2: "Without FAULT all of it comes, with one nothing."
    static void p2WithAFaultNothingComes() {
        String good = "s9;w0999;o0;t1;u304;h05;b00;b00;";
        refused(-2032, "no room", () -> write(rich(), good + "b00;"), x -> x.string(0));
        refused(-2027, "61 hours", () -> write(full(), "s9;w0999;o0;t1;u304;h05;o9;h61;"), x -> x.string(0));
        refused(-1032, "no letter", () -> write(rich(), good + "x"), x -> x.string(0));
        refused(-1035, "the end", () -> write(rich(), good + "b00"), x -> x.string(0));
        due("without", told(rich(), good), 8);
    }

    // Promise 2: "The ROW of a text, and what is taken from a SHELF, stay there"
    static void p2TheRowStays() {
        String[] texts = {"b00;", "o9;", "b0"};
        int[] answers = {1, -2000, -1002};
        for (int k = 0; k < texts.length; k++) {
            OneIsOut x = write(new OneIsOut(), texts[k]);
            due(texts[k], x.string(0), answers[k]);
            for (int i = 0; i < texts[k].length(); i++) {
                due("element " + i, x.element(0, i), texts[k].charAt(i));
            }
            due("behind it", thrown(x, 0, texts[k].length()), 2);
            due("told again", x.string(0), answers[k]);
        }
    }
}
