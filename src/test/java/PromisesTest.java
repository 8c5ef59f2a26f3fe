/** Promise by promise: answers worked out by hand, the edges the document names, wrong inputs. */
public final class PromisesTest {
    private static final long REFUSED = 1000000001L;
    private static final int MIN = Integer.MIN_VALUE;
    private static final int MAX = Integer.MAX_VALUE;

    private static int checks = 0;
    private static int wrong = 0;
    private static String promise = "";

    private static void due(String call, long got, long want) {
        checks++;
        if (got != want) {
            wrong++;
            System.out.println(promise + ": " + call + " answered " + got + ", due is " + want);
        }
    }

    /** Puts a text on shelf 0 as a row of bytes. */
    private static void write(OneIsOut x, String text) {
        fill(x, 0, 0, bytes(text));
    }

    private static int[] bytes(String text) {
        int[] values = new int[text.length()];
        for (int i = 0; i < values.length; i++) {
            values[i] = text.charAt(i);
        }
        return values;
    }

    private static void fill(OneIsOut x, int d, int kind, int... values) {
        due("row", x.row(d, kind, values.length), 0);
        for (int i = 0; i < values.length; i++) {
            due("put", x.put(d, i, values[i]), 0);
        }
    }

    private static int told(OneIsOut x, String text) {
        write(x, text);
        return x.string(0);
    }

    private static OneIsOut of(String text) {
        OneIsOut x = new OneIsOut();
        write(x, text);
        int answer = x.string(0);
        due("string " + text, answer < 0 ? answer : 0, 0);
        return x;
    }

    /** What element throws: 0 nothing, 1 IllegalArgumentException, 2 IllegalStateException. */
    private static int thrown(OneIsOut x, int d, int i) {
        try {
            x.element(d, i);
            return 0;
        } catch (IllegalArgumentException e) {
            return e.getClass() == IllegalArgumentException.class ? 1 : 3;
        } catch (IllegalStateException e) {
            return e.getClass() == IllegalStateException.class ? 2 : 3;
        }
    }

    private static void counts(OneIsOut x, int... wants) {
        for (int what = 0; what < wants.length; what++) {
            due("count(" + what + ")", x.count(what), wants[what]);
        }
    }

    public static void main(String[] args) {
        theString();
        theHand();
        hoursOn();
        toolsInMind();
        halvesAndOrders();
        wiresAndSpares();
        cutsAndBeats();
        sortsByWear();
        odds();
        boxesAndWinters();
        theImage();
        shelves();
        rows();
        bulbsOnShelves();
        System.out.println(checks + " checks, " + wrong + " wrong");
        if (wrong != 0) {
            System.exit(1);
        }
    }

    private static void theString() {
        promise = "1 a new object";
        counts(new OneIsOut(), 0, 0, 0, 1, 0, 0, 0, 0);
        due("restore", new OneIsOut().restore(), -3);
        due("cost", new OneIsOut().cost(0), -11);

        promise = "2 string";
        textsThatCome();
        textsWithFaults();

        promise = "3 bulb";
        OneIsOut x = of("b04;b14;b24;b34;b44;b54;b67;b74;");
        int[] life = {100, 100, 50, 100, 100, 80, 150, 160};
        int[] glow = {4, 4, 1, 0, 4, 3, 7, 5};
        for (int b = 0; b < 8; b++) {
            due("sort", x.bulb(b, 0), b);
            due("figure", x.bulb(b, 1), b == 6 ? 7 : 4);
            due("worn", x.bulb(b, 2), 0);
            due("whole", x.bulb(b, 3), 1);
            due("seated", x.bulb(b, 4), 1);
            due("life", x.bulb(b, 5), life[b]);
            due("glow", x.bulb(b, 6), glow[b]);
            due("leads", x.bulb(b, 7), 1);
        }
        due("what 8", x.bulb(0, 8), -1);
        due("what -1", x.bulb(0, -1), -1);
        due("no bulb", x.bulb(8, 0), -1);
        due("bulb -1", x.bulb(-1, 0), -1);
        whoLeads();

        promise = "4 hangs";
        x = new OneIsOut();
        due("-1", x.hangs(-1), -1);
        due("8", x.hangs(8), -1);
        due("nothing", x.hangs(0), -11);
        x.row(0, 0, 0);
        due("a row", x.hangs(0), -12);
        x.keep(0, 1, 4, 3);
        for (int b = 0; b < 10; b++) {
            due("hangs", x.hangs(0), b);
        }
        due("eleventh", x.hangs(0), -2);
        due("count", x.count(0), 10);
        due("sort", x.bulb(9, 0), 4);
        due("figure", x.bulb(9, 1), 3);
        due("whole", x.count(6), 1023);
        due("seated", x.count(7), 1023);
        due("stays on its shelf", x.cost(0), 7);
        due("nothing comes ahead of no room", x.hangs(1), -11);

        wearsAndBreaks();
    }

    private static void textsThatCome() {
        OneIsOut x = new OneIsOut();
        due("all statements", told(x, "b04;b19;w1007;o0;o0;o1;s3;t1;u001;h03;"), 10);
        // "u001": a look at bulb 0 from bulb 1: 2 and 1; the twist ahead of it: 8 and 1.
        counts(x, 2, 3, 3, 2, 12, 0, 2, 3);
        due("worn 0", x.bulb(0, 2), 102);
        due("worn 1", x.bulb(1, 2), 108);
        due("figure of the spare", x.bulb(1, 1), 5);
        due("on top of it", told(x, "b99;"), -2000);
        due("on top of it", told(x, "b88;"), -2000);
        due("on top of it", told(x, "b75;"), 1);
        due("bulbs", x.count(0), 3);
        due("the text stays", x.element(0, 0), 'b');
        x = new OneIsOut();
        due("worn as told", told(x, "b00;w0999;w0010;"), 3);
        due("worn", x.bulb(0, 2), 10);
        due("out, whole, out", told(x, "o0;o0;o0;"), 3);
        due("whole", x.count(6), 0);
        due("no spares", told(x, "s0;"), 1);
        due("a twist by the spares told", told(x, "s1;t0;"), 2);
        due("spares", x.count(3), 0);
        due("ten", told(x, "b00;b00;b00;b00;b00;b00;b00;b00;b00;"), 9);
        due("bulbs", x.count(0), 10);
        due("no room", told(x, "o0;b00;"), -2003);
        due("nothing of it came", x.bulb(0, 3), 1);
        due("60 hours", told(x, "h60;"), 1);
        due("hour", x.count(1), 60);
    }

    private static void textsWithFaults() {
        OneIsOut x = new OneIsOut();
        due("-1", x.string(-1), -1);
        due("8", x.string(8), -1);
        due("nothing", x.string(0), -11);
        x.keep(0, 1, 0, 0);
        due("a bulb", x.string(0), -12);
        x.row(0, 1, 0);
        due("shorts", x.string(0), -12);
        x.row(0, 2, 4);
        due("ints", x.string(0), -12);
        String[] unreadable = {
            "", "b", "b0", "b00", "x", ";", "b0;", "bb", "b00x", "b00;x", "b00;b0", "b00;;", "b000;",
            "b00; ", "w00;", "w0000", "w00000;", "o;", "o00;", "s12;", "t", "u00;", "u0000;", "h1;", "h001;",
            "B00;", "b/0;", "b:0;", "b0:;", "b00:", "o9;h61;q",
        };
        int[] places = {
            0, 1, 2, 3, 0, 0, 2, 1, 3, 4, 6, 4, 3,
            4, 3, 5, 5, 1, 2, 2, 1, 3, 4, 2, 3,
            0, 1, 1, 2, 3, 7,
        };
        for (int k = 0; k < unreadable.length; k++) {
            due("'" + unreadable[k] + "'", told(x, unreadable[k]), -1000 - places[k]);
        }
        fill(x, 0, 0, 'b', '0', '0', -69);
        due("a byte below 0", x.string(0), -1003);
        String[] undoable = {
            "b80;", "b00;b90;", "w0000;", "o0;", "b00;o1;", "t0;", "b00;s0;t0;", "b00;t0;t0;", "b00;u500;",
            "b00;u001;", "b00;b00;u110;", "b00;u011;", "h00;", "h61;", "h99;", "b00;w1000;",
            "h60;h60;h60;h60;h60;h60;h60;h60;h60;h60;h60;h60;h60;h60;h60;h60;h40;",
        };
        int[] letters = {0, 4, 0, 0, 4, 0, 7, 7, 4, 4, 8, 4, 0, 0, 0, 4, 64};
        for (int k = 0; k < undoable.length; k++) {
            due("'" + undoable[k] + "'", told(x, undoable[k]), -2000 - letters[k]);
        }
        counts(x, 0, 0, 0, 1, 0, 0, 0, 0);
        due("an hour less", told(x, undoable[16].replace("h40", "h39")), 17);
        due("hour", x.count(1), 999);
        due("one more", told(x, "h01;"), -2000);
    }

    private static void whoLeads() {
        OneIsOut x = of("b00;b10;b21;b30;b41;b50;b60;b70;o0;o1;o2;o3;o4;o5;o6;o7;");
        for (int b = 0; b < 8; b++) {
            due("an OUT one leads", x.bulb(b, 7), b == 3 ? 1 : 0);
        }
        // FIGURE 1: 3 divides the hour; worn 10: even hours alone.
        x = of("b21;b41;w0010;");
        for (int next = 1; next <= 12; next++) {
            due("cold in " + next, x.bulb(0, 7), next % 2 == 0 ? 1 : 0);
            due("blinker in " + next, x.bulb(1, 7), next % 3 != 0 ? 1 : 0);
            due("wears", x.wears(0, 9), 10);
            due("colder", x.bulb(0, 7), 1);
            due("wears", x.wears(0, 10), 9);
            x.breaks(0);
            x.hours(1);
            x.breaks(0);
        }
        // FIGURE 0: 3 divides the hour; it leads in hour 3, and is seated no more behind it.
        x = of("b10;b09;b09;b09;h02;");
        due("loose", x.bulb(0, 7), 1);
        due("hour 3", x.hours(1), 3);
        due("seated", x.bulb(0, 4), 0);
        due("whole", x.bulb(0, 3), 1);
        due("leads no more", x.bulb(0, 7), 0);
        due("dark", x.hours(1), 3);
        x = of("b10;o0;h02;");
        due("seated", x.bulb(0, 4), 1);
        due("dark", x.hours(1), 0);
        due("seated no more, dark as it is", x.bulb(0, 4), 0);
        due("whole again", x.breaks(0), 1);
        due("leads not", x.bulb(0, 7), 0);
    }

    private static void wearsAndBreaks() {
        promise = "5 wears";
        OneIsOut x = of("b00;b00;");
        due("first", x.wears(1, 999), 0);
        due("whole still", x.bulb(1, 3), 1);
        due("second", x.wears(1, 0), 999);
        due("third", x.wears(1, 5), 0);
        due("1000", x.wears(1, 1000), -1);
        due("-1", x.wears(1, -1), -1);
        due("no bulb", x.wears(2, 0), -1);
        due("bulb -1", x.wears(-1, 0), -1);
        due("as it was", x.bulb(1, 2), 5);
        x.breaks(1);
        x.wears(1, 0);
        due("out still", x.bulb(1, 3), 0);

        promise = "6 breaks";
        x = of("b00;b00;");
        due("out", x.breaks(1), 0);
        due("whole ones", x.count(6), 1);
        due("whole again", x.breaks(1), 1);
        due("whole ones", x.count(6), 3);
        due("no bulb", x.breaks(2), -1);
        due("-1", x.breaks(-1), -1);

        promise = "7 spares";
        x = new OneIsOut();
        due("at first", x.spares(9), 1);
        due("nine", x.spares(0), 9);
        due("none", x.spares(10), -1);
        due("none", x.spares(-1), -1);
        due("none", x.spares(4), 0);
        due("count", x.count(3), 4);
    }

    private static void theHand() {
        promise = "8 twist";
        OneIsOut x = of("b10;b00;b00;b00;w3050;o3;");
        due("no bulb", x.twist(4), -1);
        due("-1", x.twist(-1), -1);
        due("to 3", x.twist(3), 11);
        counts(x, 4, 0, 0, 0, 11, 3, 15, 15);
        due("sort", x.bulb(3, 0), 6);
        due("figure", x.bulb(3, 1), 5);
        due("worn", x.bulb(3, 2), 0);
        due("no spares", x.twist(3), -3);
        due("no bulb ahead of no spares", x.twist(4), -1);
        x.spares(2);
        due("back to 1", x.twist(1), 10);
        due("spares", x.count(3), 1);
        due("seconds", x.count(4), 21);
        x = of("b10;o0;h03;");
        due("seated no more", x.count(7), 0);
        due("twist", x.twist(0), 8);
        due("seated", x.count(7), 1);

        promise = "9 use";
        x = of("b00;b10;b20;b00;w0030;o3;");
        due("tool 5", x.use(5, 0, 0), -1);
        due("tool -1", x.use(-1, 0, 0), -1);
        due("no bulb", x.use(0, 0, 4), -1);
        due("-1", x.use(0, -1, 0), -1);
        due("i above j", x.use(0, 1, 0), -1);
        due("look at half its life", x.use(0, 0, 2), 1);
        due("hand at i", x.count(5), 0);
        due("seconds", x.count(4), 2);
        x.wears(0, 29);
        due("look at less", x.use(0, 0, 0), 0);
        due("needle 0 .. 1", x.use(2, 0, 1), 1);
        due("hand at j", x.count(5), 1);
        due("seconds", x.count(4), 8);
        // COLD of FIGURE 0 leads in even hours alone: not in hour 1.
        due("needle 2 .. 2", x.use(2, 2, 2), 0);
        due("seconds", x.count(4), 12);
        due("wire 0 .. 1", x.use(3, 0, 1), 0);
        due("seconds", x.count(4), 22);
        due("wire 2 .. 3", x.use(3, 2, 3), 1);
        due("seconds", x.count(4), 31);
        due("wire all", x.use(3, 0, 3), 1);
        due("seconds", x.count(4), 46);
        due("spare 2", x.use(4, 2, 3), 0);
        due("hand at i", x.count(5), 2);
        due("seconds", x.count(4), 55);
        x.breaks(3);
        due("spare 2 again", x.use(4, 2, 2), 1);
        due("spare 0", x.use(4, 0, 0), 0);
        due("spares stay", x.count(3), 1);
        knockAndSeconds();
        hoursPass();
    }

    private static void knockAndSeconds() {
        OneIsOut x = of("b19;b10;o0;h03;");
        due("seated", x.count(7), 1);
        x.breaks(0);
        due("dark", x.lights(0), 0);
        due("knock 0", x.use(1, 0, 1), 0);
        due("knock 1", x.use(1, 1, 1), 1);
        due("seated", x.count(7), 3);
        due("lights", x.lights(0), 1);
        due("seconds", x.count(4), 3);
        due("hand", x.count(5), 1);
        x = of("b00;b00;b00;b00;b00;b00;b00;b00;b00;b00;");
        // A wire across all takes 24, and the way back 9.
        for (int k = 0; k < 305; k++) {
            x.use(3, 0, 9);
        }
        due("seconds", x.count(4), 24 + 304 * 33 > 9999 ? 9999 : 24 + 304 * 33);
        due("took", x.twist(0), 17);
        due("never more", x.count(4), 9999);
    }

    private static void hoursPass() {
        promise = "10 hours";
        OneIsOut x = of("b04;");
        due("0", x.hours(0), -1);
        due("61", x.hours(61), -1);
        due("-1", x.hours(-1), -1);
        due("one", x.hours(1), 1);
        due("worn 4 and 60", x.bulb(0, 2), 64);
        due("two more", x.hours(2), 2);
        due("worn", x.bulb(0, 2), 128);
        due("out", x.bulb(0, 3), 0);
        due("hour", x.count(1), 3);
        x = of("b09;b39;o1;");
        // The shorted one that is OUT leads, but has no part in the volts.
        due("one", x.hours(1), 1);
        due("worn 0", x.bulb(0, 2), 64);
        due("worn 1", x.bulb(1, 2), 0);
        x = of("b09;b39;b09;");
        due("five", x.hours(5), 5);
        due("worn 0", x.bulb(0, 2), 5 * 24);
        due("worn 1", x.bulb(1, 2), 5 * 20);
        x = of("b39;o0;");
        for (int k = 0; k < 16; k++) {
            due("sixty", x.hours(60), 60 * (k + 1));
        }
        due("above 999", x.hours(40), -3);
        due("hour", x.count(1), 960);
        due("61 ahead of above 999", x.hours(61), -1);
        due("999", x.hours(39), 999);
        due("above 999", x.hours(1), -3);
        due("no volts", x.bulb(0, 2), 0);
        x = of("b79;w0990;");
        x.hours(1);
        due("999 at most", x.bulb(0, 2), 999);
        x = of("b04;w0036;");
        x.hours(1);
        due("worn its life: out", x.count(6), 0);
        x = of("b04;w0035;");
        x.hours(1);
        due("worn less: whole", x.count(6), 1);
        due("an empty string", new OneIsOut().hours(60), 0);
    }

    private static void hoursOn() {
        promise = "11 then";
        OneIsOut x = of("b04;b09;");
        due("whole now", x.then(0, 0), 3);
        due("lit now", x.then(0, 1), 0);
        due("worn now", x.then(0, 2), 0);
        // 34 each an hour: 102 behind three.
        due("whole", x.then(3, 0), 2);
        due("whole", x.then(2, 0), 3);
        due("lit", x.then(2, 1), 2);
        due("lit", x.then(60, 1), 3);
        due("worn", x.then(60, 2), 204);
        due("nothing is so", x.count(1), 0);
        due("-1", x.then(-1, 0), -1);
        due("61", x.then(61, 0), -1);
        due("what 3", x.then(0, 3), -1);
        due("what -1", x.then(0, -1), -1);
        x = of("b39;o0;");
        for (int k = 0; k < 16; k++) {
            x.hours(60);
        }
        x.hours(39);
        due("the hour may pass 999", x.then(60, 1), 999);

        promise = "12 wornThen";
        x = of("b04;b09;");
        due("0", x.wornThen(0, 0), 0);
        due("2", x.wornThen(0, 2), 68);
        due("60", x.wornThen(1, 60), 102);
        due("2 again", x.wornThen(0, 2), 68);
        due("no bulb", x.wornThen(2, 0), -1);
        due("bulb -1", x.wornThen(-1, 0), -1);
        due("-1", x.wornThen(0, -1), -1);
        due("61", x.wornThen(0, 61), -1);

        promise = "13 goes";
        x = of("b04;b09;b09;o2;");
        due("dark", x.goes(0), -4);
        due("out now", x.goes(2), 0);
        due("nobody", x.goes(-1), -4);
        x = of("b09;b04;b04;");
        // 24 each an hour: 120 behind five.
        due("0", x.goes(0), -4);
        due("1", x.goes(1), 5);
        due("next", x.goes(-1), 1);
        due("-2", x.goes(-2), -1);
        due("3", x.goes(3), -1);
        x = of("b39;b39;o1;");
        // Alone 60 an hour: 180 behind three.
        due("shorted", x.goes(0), 3);
        due("next", x.goes(-1), 0);
        x = of("b29;w0000;b39;o1;");
        due("cold", x.goes(0), 2);
        // 34 and 35 an hour: 170 behind five, 140 behind four.
        x = of("b09;b73;");
        due("next", x.goes(-1), 1);
        due("next again", x.goes(-1), 1);

        promise = "14 dark";
        due("empty", new OneIsOut().dark(), 1);
        due("five", of("b09;b09;").dark(), 6);
        x = of("b09;b09;");
        due("dark", x.dark(), 6);
        due("as it was", x.dark(), 6);
        due("blinker", of("b42;b09;b09;").dark(), 4);
        due("never", of("b30;o0;").dark(), -4);
        whatLights();
    }

    private static void whatLights() {
        promise = "15 lights";
        due("empty", new OneIsOut().lights(3), 0);
        due("empty", new OneIsOut().lights(4), -4);
        OneIsOut x = of("b09;b09;b20;b41;");
        due("burns", x.lights(0), 0);
        due("faults", x.lights(1), 4);
        due("brown", x.lights(2), 0);
        due("longest", x.lights(3), 1);
        due("weakest", x.lights(4), 2);
        due("what 5", x.lights(5), -1);
        due("what -1", x.lights(-1), -1);
        x = of("b09;b19;w0075;w1074;o0;");
        due("brown, out as it is", x.lights(2), 1);
        due("weakest is whole", x.lights(4), 1);
        x = of("b24;b09;w0024;");
        due("brown", x.lights(2), 0);
        x.wears(0, 25);
        due("brown", x.lights(2), 1);
        x = of("b09;b00;b04;w2040;");
        due("weakest of several", x.lights(4), 1);
        x = of("b09;b09;");
        due("longest", x.lights(3), 5);
        // 5 divides 5: burns in 1 .. 4 and 6; 19 each an hour.
        x = of("b49;b43;b09;b09;");
        due("longest", x.lights(3), 4);
        x = of("b30;o0;");
        due("longest", x.lights(3), 60);
        due("none is whole", x.lights(4), -4);
        due("longest again", x.lights(3), 60);
        due("the first is at fault", of("b20;b09;").lights(1), 1);
        due("the first is the weakest", of("b02;b09;b03;").lights(4), 0);
        due("weakest by its wear", of("b02;b09;b03;w1999;").lights(4), 1);
        // 3 divides the next hour, not the hour ahead of this one.
        x = of("b41;b09;b09;h02;");
        due("burns not in hour 3", x.lights(0), 0);
        due("faults in hour 3", x.lights(1), 1);
        due("a knock in hour 3", x.tool(1, 1, 1, 0), 0);
        x = of("b40;");
        due("burns in hour 1", x.lights(0), 1);
        x.breaks(0);
        x.hours(1);
        x.breaks(0);
        due("not in hour 2", x.lights(0), 0);
    }

    private static void toolsInMind() {
        promise = "16 tool";
        OneIsOut x = of("b19;b10;b00;o0;h03;o0;u022;");
        // The hand is at bulb 2; bulb 1 is seated no more.
        int[] tells = {0, 1, 1, 1, 1};
        int[] seconds = {2, 1, 4, 8, 8};
        int[] hands = {1, 1, 2, 2, 1};
        for (int tool = 0; tool < 5; tool++) {
            due("tells " + tool, x.tool(tool, 1, 2, 0), tool == 2 ? 0 : tells[tool]);
            due("takes " + tool, x.tool(tool, 1, 2, 1), seconds[tool] + 1);
            due("hand " + tool, x.tool(tool, 1, 2, 2), hands[tool]);
        }
        due("not seated by it", x.count(7), 5);
        due("no seconds by it", x.count(4), 4);
        due("no hand by it", x.count(5), 2);
        due("wire 0", x.tool(3, 0, 0, 0), 0);
        due("spare 0", x.tool(4, 0, 1, 0), 0);
        due("needle 2", x.tool(2, 2, 2, 0), 1);
        due("wire 0 .. 2", x.tool(3, 0, 2, 1), 12);
        due("needle 0 .. 2", x.tool(2, 0, 2, 1), 7);
        due("spare 0", x.tool(4, 0, 2, 1), 10);
        OneIsOut first = of("b00;b00;b00;o0;");
        due("knock 1", first.tool(1, 1, 1, 0), 0);
        due("wire 1", first.tool(3, 1, 1, 0), 0);
        due("spare 1", first.tool(4, 1, 1, 0), 0);
        due("spare 0", first.tool(4, 0, 0, 0), 1);
        due("tool 5", x.tool(5, 0, 0, 0), -1);
        due("tool -1", x.tool(-1, 0, 0, 0), -1);
        due("i above j", x.tool(0, 1, 0, 0), -1);
        due("no bulb", x.tool(0, 1, 3, 0), -1);
        due("bulb -1", x.tool(0, -1, 2, 0), -1);
        due("what 3", x.tool(0, 0, 0, 3), -1);
        due("what -1", x.tool(0, 0, 0, -1), -1);
    }

    private static void halvesAndOrders() {
        promise = "17 halves";
        OneIsOut x = of("b00;b00;b00;b00;b00;b00;b00;b00;b00;b00;");
        int[] worst = {0, 6, 12, 14, 20, 22};
        int[] cut = {-4, 2, 2, 3, 2, 3};
        for (int length = 0; length < 6; length++) {
            due("worst", x.halves(2, 2 + length, 0), worst[length]);
            due("cut", x.halves(2, 2 + length, 1), cut[length]);
        }
        due("a above b", x.halves(3, 2, 0), -1);
        due("a -1", x.halves(-1, 2, 0), -1);
        due("b 10", x.halves(0, 10, 0), -1);
        due("what 2", x.halves(0, 1, 2), -1);
        due("what -1", x.halves(0, 1, -1), -1);

        promise = "18 mean";
        due("one", x.mean(4, 4, 0), 0);
        due("one", x.mean(4, 4, 1), 1);
        due("two", x.mean(4, 5, 0), 6);
        due("two", x.mean(4, 5, 1), 1);
        due("three", x.mean(4, 6, 0), 10);
        due("four", x.mean(4, 7, 0), 27);
        due("four", x.mean(4, 7, 1), 2);
        x.wears(6, 7);
        due("three by odds", x.mean(4, 6, 0), 46);
        due("three by odds", x.mean(4, 6, 1), 5);
        due("a above b", x.mean(3, 2, 0), REFUSED);
        due("a -1", x.mean(-1, 2, 0), REFUSED);
        due("b 10", x.mean(0, 10, 0), REFUSED);
        due("part 2", x.mean(0, 1, 2), REFUSED);
        due("part -1", x.mean(0, 1, -1), REFUSED);

        promise = "19 order";
        x = of("b00;b00;b00;b00;b00;b00;");
        due("none", x.order(0, 0), 1);
        due("none", x.order(0, 1), 0);
        due("three", x.order(7, 0), 1012);
        due("three", x.order(7, 1), 8 + 17 + 26);
        x.wears(2, 9);
        due("by odds", x.order(7, 0), 1210);
        due("by odds", x.order(7, 1), 100 + 19 + 28);
        x.wears(2, 0);
        x.use(0, 1, 1);
        due("of several", x.order(5, 0), 102);
        due("of several", x.order(5, 1), 9 + 19);
        due("five", x.order(62, 0), 112345);
        due("six", x.order(63, 0), -1);
        due("no bulb", x.order(64, 0), -1);
        due("below 0", x.order(-1, 0), -1);
        due("below 0", x.order(MIN, 0), -1);
        due("what 2", x.order(7, 2), -1);
        due("what -1", x.order(7, -1), -1);
        due("five, last", of("b00;b00;b00;b00;b00;b00;b00;b00;b00;b00;").order(0x3e0, 0), 156789);
    }

    private static void wiresAndSpares() {
        promise = "20 suspects";
        OneIsOut x = of("b00;b00;b00;b00;b30;");
        due("-1", x.suspects(-1, 0), -1);
        due("8", x.suspects(8, 0), -1);
        due("what 2", x.suspects(1, 2), -1);
        due("what -1", x.suspects(1, -1), -1);
        due("nothing", x.suspects(1, 0), -11);
        x.keep(1, 1, 0, 0);
        due("a bulb", x.suspects(1, 0), -12);
        due("what ahead of it", x.suspects(1, 2), -1);
        for (int kind = 0; kind < 3; kind++) {
            x.row(1, kind, 0);
            due("all", x.suspects(1, 0), 31);
            due("all", x.suspects(1, 1), 10);
            fill(x, 1, kind, 1, 3, 1);
            due("across 1 .. 3", x.suspects(1, 0), 14);
            due("across 1 .. 3", x.suspects(1, 1), 3);
            fill(x, 1, kind, 1, 3, 2);
            due("not across 1 .. 3", x.suspects(1, 0), 17);
            due("not across 1 .. 3", x.suspects(1, 1), 7);
            fill(x, 1, kind, 1, 3, 1, 3, 3, -1);
            due("and not 3", x.suspects(1, 0), 6);
            due("and not 3", x.suspects(1, 1), 3);
            fill(x, 1, kind, 0, 5, 1);
            due("no such bulb", x.suspects(1, 0), -13);
            fill(x, 1, kind, -1, 4, 1);
            due("no such bulb", x.suspects(1, 1), -13);
            fill(x, 1, kind, 0, 4, 1, 3, 2, 1);
            due("i above j", x.suspects(1, 0), -13);
            fill(x, 1, kind, 0, 4, 1, 3);
            due("unwhole", x.suspects(1, 0), -13);
        }

        promise = "21 buy";
        x = of("b04;s5;");
        due("two", x.buy(2), 0);
        due("three", x.buy(3), 1);
        due("five", x.buy(5), 1);
        due("six", x.buy(6), 2);
        due("all nine", x.buy(29), 9);
        due("too many", x.buy(30), -4);
        due("none", x.buy(0), 0);
        due("-1", x.buy(-1), -1);
        due("61", x.buy(61), -1);
        due("its own spares", x.count(3), 5);
        due("empty", new OneIsOut().buy(0), 0);
        due("empty", new OneIsOut().buy(1), -4);
        x = of("b09;b09;o0;o1;s0;");
        due("two at once", x.buy(1), 2);
        // A shorted one that is out becomes a spare, by its number ahead of the other.
        due("by numbers", of("b30;b09;o0;o1;").buy(1), 2);
        due("shorted ones lead, out as they are", of("b30;o0;").buy(60), 0);
        due("a loose one hangs", of("b10;o0;h03;o0;").buy(1), -4);
    }

    private static void cutsAndBeats() {
        promise = "22 light";
        OneIsOut x = of("b09;b09;");
        due("whole", x.light(0, 10), 10);
        due("four", x.light(0, 4), 8);
        due("cut", x.light(1, 10), 6);
        due("none", x.light(0, 0), 0);
        due("2", x.light(2, 10), -1);
        due("-1", x.light(-1, 10), -1);
        due("n -1", x.light(0, -1), -1);
        due("n 31", x.light(0, 31), -1);
        due("n 30", x.light(0, 30), 10);
        x.breaks(0);
        due("dark", x.light(0, 10), 0);
        due("half of it", x.light(1, 10), 3);
        due("empty", new OneIsOut().light(0, 30), 0);
        due("empty", new OneIsOut().light(1, 30), -1);
        due("an out shorted one", of("b30;b09;b09;o0;").light(0, 10), 10);
        // Loose 3 hours: 64 each an hour in a string of its own.
        due("loose", of("b19;b10;").light(1, 30), 4);
        due("loose", of("b10;b09;b09;").light(1, 30), 11);

        promise = "23 split";
        x = of("b09;b09;");
        due("k", x.split(10, 0), 0);
        due("light", x.split(10, 1), 10);
        x.breaks(0);
        due("k", x.split(10, 0), 1);
        due("light", x.split(10, 1), 3);
        due("none", x.split(0, 0), 0);
        due("n -1", x.split(-1, 0), -1);
        due("n 31", x.split(31, 0), -1);
        due("what 2", x.split(1, 2), -1);
        due("what -1", x.split(1, -1), -1);
        x = of("b09;b09;b09;o1;");
        due("of several", x.split(2, 0), 1);
        due("of several", x.split(2, 1), 2);

        promise = "24 beat";
        x = of("b00;");
        due("figure", x.beat(0, 9, 0), 7);
        due("hours", x.beat(0, 9, 1), 3);
        due("one hour", x.beat(0, 1, 0), 0);
        due("one hour", x.beat(0, 1, 1), 1);
        due("none", x.beat(0, 0, 0), 0);
        due("none", x.beat(0, 0, 1), 0);
        due("as it was", x.bulb(0, 1), 0);
        due("no bulb", x.beat(1, 1, 0), -1);
        due("bulb -1", x.beat(-1, 1, 0), -1);
        due("n -1", x.beat(0, -1, 0), -1);
        due("n 61", x.beat(0, 61, 0), -1);
        due("what 2", x.beat(0, 1, 2), -1);
        due("what -1", x.beat(0, 1, -1), -1);
        // Ten: 10 an hour of the first, 11 of the others, whose life is 260.
        x = of("b00;b79;b79;b79;b79;b79;b79;b79;b79;b79;");
        due("nine", x.beat(0, 60, 0), 9);
        due("nine", x.beat(0, 60, 1), 15);
        x = of("b30;b40;o0;o1;");
        due("dark", x.beat(1, 60, 0), 0);
        due("dark", x.beat(1, 60, 1), 0);

        promise = "25 end";
        x = of("b00;b00;b00;");
        due("alike", x.end(0), 0);
        due("alike", x.end(1), 3);
        x.wears(2, 9);
        due("from the last", x.end(0), 1);
        due("from the last", x.end(1), 3);
        x.wears(0, 99);
        due("from the first", x.end(0), 0);
        due("from the first", x.end(1), 21);
        due("what 2", x.end(2), -1);
        due("what -1", x.end(-1), -1);
        due("empty", new OneIsOut().end(1), 0);
    }

    private static void sortsByWear() {
        promise = "26 whatIs";
        OneIsOut x = of("b04;");
        refusedByRow(x, 26);
        fill(x, 1, 0, 0, 64);
        due("sorts", x.whatIs(1, 0, 0), 19);
        due("figures", x.whatIs(1, 0, 1), 1023);
        fill(x, 1, 1, 0, 64, 128);
        due("sorts", x.whatIs(1, 0, 0), 19);
        due("figures", x.whatIs(1, 0, 1), 1022);
        fill(x, 1, 1, -32768, -32768, 128, -32768);
        due("skipped", x.whatIs(1, 0, 1), 1022);
        fill(x, 1, 2, MIN, -32768);
        due("not the least of ints", x.whatIs(1, 0, 0), 0);
        fill(x, 1, 2, MIN, MIN);
        due("the least of ints", x.whatIs(1, 0, 0), 255);
        fill(x, 1, 0, 0, -128, -128);
        due("the least of bytes", x.whatIs(1, 0, 0), 255);
        fill(x, 1, 1, 0, -128);
        due("not the least of shorts", x.whatIs(1, 0, 0), 0);
        fill(x, 1, 0, 1);
        due("not so now", x.whatIs(1, 0, 0), 0);
        x.row(1, 0, 0);
        due("all", x.whatIs(1, 0, 0), 255);
        due("all", x.whatIs(1, 0, 1), 1023);
        int[] hundred = new int[100];
        java.util.Arrays.fill(hundred, MIN);
        hundred[99] = 128;
        fill(x, 1, 2, hundred);
        due("99 hours on", x.whatIs(1, 0, 1), 126);
        due("as it was", x.bulb(0, 0), 0);

        promise = "27 wornFrom";
        x = of("b04;");
        refusedByRow(x, 27);
        fill(x, 1, 0, 70);
        due("how many", x.wornFrom(1, 0, 0), 1);
        due("least", x.wornFrom(1, 0, 1), 6);
        due("greatest", x.wornFrom(1, 0, 2), 6);
        fill(x, 1, 1, -32768, 140);
        due("how many", x.wornFrom(1, 0, 0), 2);
        due("least", x.wornFrom(1, 0, 1), 12);
        due("greatest", x.wornFrom(1, 0, 2), 76);
        fill(x, 1, 1, 63);
        due("none", x.wornFrom(1, 0, 0), 0);
        due("none", x.wornFrom(1, 0, 1), -4);
        due("none", x.wornFrom(1, 0, 2), -4);
        x.row(1, 2, 0);
        due("all", x.wornFrom(1, 0, 0), 100);
        due("all", x.wornFrom(1, 0, 1), 0);
        due("all", x.wornFrom(1, 0, 2), 99);
    }

    private static void refusedByRow(OneIsOut x, int number) {
        int whats = number == 26 ? 2 : 3;
        for (int what = -1; what <= whats; what++) {
            boolean so = what >= 0 && what < whats;
            due("-1", byRow(x, number, -1, 0, what), -1);
            due("8", byRow(x, number, 8, 0, what), -1);
            due("no bulb", byRow(x, number, 1, 1, what), -1);
            due("bulb -1", byRow(x, number, 1, -1, what), -1);
            due("nothing", byRow(x, number, 1, 0, what), so ? -11 : -1);
            x.keep(2, 1, 0, 0);
            due("a bulb", byRow(x, number, 2, 0, what), so ? -12 : -1);
        }
    }

    private static int byRow(OneIsOut x, int number, int d, int b, int what) {
        return number == 26 ? x.whatIs(d, b, what) : x.wornFrom(d, b, what);
    }

    private static void odds() {
        promise = "28 frost";
        OneIsOut x = of("b04;");
        fraction(x, 0, 2, 1, 1);
        fraction(x, 1, 3, 2, 3);
        fraction(x, 1, 20, 19, 20);
        fraction(x, 2, 3, 0, 1);
        x = of("b09;b09;");
        fraction(x, 3, 2, 1, 2);
        fraction(x, 3, 4, 27, 32);
        // In 7 hours all is out behind five at most.
        fraction(x, 4, 20, 130321, 160000);
        fraction(x, 7, 20, 0, 1);
        due("n -1", x.frost(0, -1, 2, 0), REFUSED);
        due("n 8", x.frost(0, 8, 2, 0), REFUSED);
        due("t 1", x.frost(0, 1, 1, 0), REFUSED);
        due("t 0", x.frost(0, 1, 0, 0), REFUSED);
        due("t 21", x.frost(0, 1, 21, 0), REFUSED);
        due("part 2", x.frost(0, 1, 2, 2), REFUSED);
        due("part -1", x.frost(0, 1, 2, -1), REFUSED);
        due("no bulb", x.frost(2, 1, 2, 0), REFUSED);
        due("bulb -1", x.frost(-1, 1, 2, 0), REFUSED);
        x.breaks(0);
        fraction(x, 0, 2, 0, 1);
        fraction(x, 7, 20, 0, 1);

        promise = "29 share";
        x = of("b00;b00;b00;");
        due("of none", x.share(0, 0), 0);
        due("of none", x.share(0, 1), 1);
        x.wears(0, 6);
        x.wears(1, 4);
        due("above", x.share(0, 0), 3);
        due("below", x.share(0, 1), 5);
        due("none of it", x.share(2, 0), 0);
        due("none of it", x.share(2, 1), 1);
        x.wears(1, 0);
        due("all of it", x.share(0, 0), 1);
        due("all of it", x.share(0, 1), 1);
        due("no bulb", x.share(3, 0), REFUSED);
        due("bulb -1", x.share(-1, 0), REFUSED);
        due("part 2", x.share(0, 2), REFUSED);
        due("part -1", x.share(0, -1), REFUSED);
    }

    private static void fraction(OneIsOut x, int n, int t, long above, long below) {
        due("frost " + n + ", " + t + " above", x.frost(0, n, t, 0), above);
        due("frost " + n + ", " + t + " below", x.frost(0, n, t, 1), below);
    }

    private static void boxesAndWinters() {
        promise = "30 forged";
        OneIsOut x = of("b04;b14;b74;");
        due("-1", x.forged(-1), -1);
        due("8", x.forged(8), -1);
        due("nothing", x.forged(1), -11);
        x.keep(1, 1, 0, 0);
        due("a bulb", x.forged(1), -12);
        for (int kind = 0; kind < 3; kind++) {
            fill(x, 1, kind, 0, 1, 7);
            due("all so", x.forged(1), -4);
            fill(x, 1, kind, 0, 1);
            due("fewer", x.forged(1), -4);
            fill(x, 1, kind, 0, 1, 7, 0);
            due("one more", x.forged(1), 3);
            fill(x, 1, kind, 0, 2, 6);
            due("the first", x.forged(1), 1);
            fill(x, 1, kind, 5, 1, 7);
            due("bulb 0", x.forged(1), 0);
            fill(x, 1, kind, 0, 1, kind == 0 ? -128 : kind == 1 ? -32768 : MIN);
            due("nothing is skipped", x.forged(1), 2);
            x.row(1, kind, 0);
            due("nothing told", x.forged(1), -4);
        }

        promise = "31 judge";
        x = of("b04;b09;");
        due("-1", x.judge(-1), -1);
        due("8", x.judge(8), -1);
        due("nothing", x.judge(1), -11);
        x.keep(1, 1, 0, 0);
        due("a bulb", x.judge(1), -12);
        fill(x, 1, 0, 2, 2, 2, 1, 1, 1);
        due("all so", x.judge(1), -4);
        fill(x, 1, 1, 2, 2, 2, 2, 1);
        due("third hour", x.judge(1), 3);
        fill(x, 1, 2, 1, 2);
        due("now", x.judge(1), 0);
        fill(x, 1, 2, MIN, 2, MIN, MIN, MIN, 2);
        due("skipped", x.judge(1), 5);
        fill(x, 1, 1, 2, -128);
        due("not skipped", x.judge(1), 1);
        x.row(1, 1, 0);
        due("nothing told", x.judge(1), -4);

        promise = "32 winters";
        x = of("b04;w0000;");
        // Draws by seed 1: 8, 8, 3, 5, 1: lit 3, 3, 2, 2, 2 hours.
        int[] lit = {3, 6, 8, 10, 12};
        for (int n = 1; n <= 5; n++) {
            due("lit", x.winters(n, 1, 0), lit[n - 1]);
            due("out", x.winters(n, 1, 1), n);
        }
        due("0", x.winters(0, 1, 0), -1);
        due("21", x.winters(21, 1, 0), -1);
        due("what 2", x.winters(1, 1, 2), -1);
        due("what -1", x.winters(1, 1, -1), -1);
        due("as it was", x.bulb(0, 1), 4);
        due("empty", new OneIsOut().winters(20, MAX, 0), 0);
        x = of("b30;o0;h10;");
        due("lit more", x.winters(20, MIN, 0), 400);
        due("out ones", x.winters(20, MIN, 1), 20);
        x = of("b00;b00;");
        // By numbers: FIGURES 8 and 8, then 3 and 5: 34 each an hour, till the first is OUT.
        due("two", x.winters(1, 1, 0), 5);
        due("two", x.winters(2, 1, 0), 5 + 3);
        due("two", x.winters(1, 1, 1), 2);
        due("two", x.winters(2, 1, 1), 2 + 1);
    }

    private static void theImage() {
        promise = "33 image";
        OneIsOut x = of("b04;b14;b24;b24;");
        due("none yet", x.restore(), -3);
        x.hours(3);
        x.use(2, 0, 1);
        due("taken", x.image(), 3);

        promise = "34 restore";
        int[] before = new int[8];
        for (int what = 0; what < 8; what++) {
            before[what] = x.count(what);
        }
        due("worn", x.bulb(0, 2), 57);
        x.keep(3, 1, 7, 7);
        x.hangs(3);
        x.breaks(0);
        x.wears(0, 1);
        x.spares(9);
        x.twist(1);
        x.hours(9);
        due("hour", x.count(1), 12);
        due("restored", x.restore(), 3);
        counts(x, before);
        due("worn", x.bulb(0, 2), 57);
        due("sort", x.bulb(1, 0), 1);
        due("figure", x.bulb(1, 1), 4);
        due("shelves stay", x.cost(3), 15);
        x.hours(1);
        due("restored again", x.restore(), 3);
        counts(x, before);
        x.hours(1);
        due("taken again", x.image(), 4);
        x.hours(2);
        due("restored", x.restore(), 4);

        promise = "35 count";
        x = of("b19;b00;b00;s7;u212;o2;h12;");
        counts(x, 3, 12, 0, 7, 5, 2, 3, 6);
        due("what 8", x.count(8), -1);
        due("what -1", x.count(-1), -1);
        due("what least", x.count(MIN), -1);
        due("what greatest", x.count(MAX), -1);
    }

    private static void shelves() {
        promise = "36 keep";
        OneIsOut x = new OneIsOut();
        due("-1", x.keep(-1, 0, 0, 0), -1);
        due("8", x.keep(8, 0, 0, 0), -1);
        due("what 2", x.keep(0, 2, 0, 0), -1);
        due("what -1", x.keep(0, -1, 0, 0), -1);
        due("sort 8", x.keep(0, 1, 8, 0), -1);
        due("sort -1", x.keep(0, 1, -1, 0), -1);
        due("figure 10", x.keep(0, 1, 0, 10), -1);
        due("figure -1", x.keep(0, 1, 0, -1), -1);
        due("nothing yet", x.cost(0), -11);
        due("a bulb", x.keep(7, 1, 0, 9), 0);
        due("cost", x.cost(7), 9);
        due("refused", x.keep(7, 1, 9, 9), -1);
        due("cost still", x.cost(7), 9);
        due("nothing, the others do not matter", x.keep(7, 0, MIN, MAX), 0);
        due("nothing", x.cost(7), -11);

        promise = "37 row";
        due("-1", x.row(-1, 0, 0), -1);
        due("8", x.row(8, 0, 0), -1);
        due("kind 3", x.row(0, 3, 0), -1);
        due("kind -1", x.row(0, -1, 0), -1);
        due("101", x.row(0, 0, 101), -1);
        due("below 0", x.row(0, 0, -1), -14);
        due("below 0", x.row(0, 2, MIN), -14);
        due("no kind ahead of below 0", x.row(0, 3, -1), -1);
        due("no shelf ahead of below 0", x.row(8, 0, -1), -1);
        due("nothing yet", x.put(0, 0, 0), -11);
        due("hundred", x.row(0, 2, 100), 0);
        due("last", x.put(0, 99, 7), 0);
        due("at first", x.element(0, 0), 0);
        due("first", x.put(0, 0, 7), 0);
        due("again", x.row(0, 2, 100), 0);
        due("0 at first", x.element(0, 0), 0);
        due("0 at first", x.element(0, 99), 0);
        due("refused", x.row(0, 2, -1), -14);
        due("still there", thrown(x, 0, 99), 0);

        promise = "38 put";
        due("-1", x.put(-1, 0, 0), -1);
        due("8", x.put(8, 0, 0), -1);
        due("nothing", x.put(1, 0, 0), -11);
        x.keep(1, 1, 0, 0);
        due("a bulb", x.put(1, 0, 0), -12);
        due("place 100", x.put(0, 100, 0), -13);
        due("place -1", x.put(0, -1, 0), -13);
        due("place least", x.put(0, MIN, 0), -13);
        x.row(1, 0, 0);
        due("no place", x.put(1, 0, 0), -13);
        int[] values = {0, 1, -1, 127, 128, 255, 256, -129, 32767, 32768, 65535, -32769, MAX, MIN};
        for (int v : values) {
            fill(x, 2, 0, v);
            due("byte " + v, x.element(2, 0), (byte) v);
            fill(x, 2, 1, v);
            due("short " + v, x.element(2, 0), (short) v);
            fill(x, 2, 2, v);
            due("int " + v, x.element(2, 0), v);
        }
    }

    private static void rows() {
        promise = "39 element";
        OneIsOut x = new OneIsOut();
        due("-1", thrown(x, -1, 0), 1);
        due("8", thrown(x, 8, 0), 1);
        due("nothing", thrown(x, 0, 0), 2);
        x.keep(0, 1, 0, 0);
        due("a bulb", thrown(x, 0, 0), 2);
        fill(x, 0, 1, 300, -5);
        due("0", x.element(0, 0), 300);
        due("1", x.element(0, 1), -5);
        due("place 2", thrown(x, 0, 2), 2);
        due("place -1", thrown(x, 0, -1), 2);
        due("place least", thrown(x, 0, MIN), 2);

        promise = "40 copy";
        due("-1", x.copy(-1, 0, 0, 0, 0), -1);
        due("8", x.copy(0, 0, 8, 0, 0), -1);
        due("-1 ahead of nothing", x.copy(1, 0, 8, 0, -1), -1);
        due("from nothing", x.copy(1, 0, 0, 0, 0), -11);
        due("to nothing", x.copy(0, 0, 1, 0, -1), -11);
        x.keep(2, 1, 0, 0);
        due("bulb to nothing", x.copy(2, 0, 1, 0, 0), -11);
        due("a bulb", x.copy(0, 0, 2, 0, -1), -12);
        due("a bulb", x.copy(2, 0, 2, 0, 0), -12);
        x.row(3, 1, 9);
        x.keep(3, 1, 0, 0);
        due("a bulb where a row was", x.copy(0, 0, 3, 0, 1), -12);
        due("a bulb where a row was", x.copy(3, 0, 0, 0, 1), -12);
        x.row(1, 0, 9);
        due("another kind", x.copy(0, 0, 1, 0, -1), -12);
        fill(x, 1, 1, 1, 2, 3, 4, 5);
        due("n below 0", x.copy(1, 0, 0, 0, -1), -13);
        due("i -1", x.copy(1, -1, 0, 0, 1), -13);
        due("j -1", x.copy(1, 0, 0, -1, 1), -13);
        due("from too far", x.copy(1, 4, 0, 0, 2), -13);
        due("to too far", x.copy(1, 0, 0, 1, 2), -13);
        due("n greatest", x.copy(1, 1, 0, 1, MAX), -13);
        due("i greatest", x.copy(1, MAX, 0, 0, 1), -13);
        due("j greatest", x.copy(1, 0, 0, MAX, 1), -13);
        due("nothing changed", x.element(0, 0), 300);
        due("two", x.copy(1, 3, 0, 0, 2), 2);
        due("first", x.element(0, 0), 4);
        due("second", x.element(0, 1), 5);
        due("none", x.copy(1, 0, 0, 0, 0), 0);
        due("within one", x.copy(1, 0, 1, 1, 4), 4);
        int[] up = {1, 1, 2, 3, 4};
        for (int i = 0; i < 5; i++) {
            due("up " + i, x.element(1, i), up[i]);
        }
        due("within one", x.copy(1, 1, 1, 0, 4), 4);
        int[] down = {1, 2, 3, 4, 4};
        for (int i = 0; i < 5; i++) {
            due("down " + i, x.element(1, i), down[i]);
        }
    }

    private static void bulbsOnShelves() {
        OneIsOut x = new OneIsOut();
        x.row(1, 0, 0);
        int[] costs = {4, 1, 6, 0, 7, 8, 3, 9};
        int[] failures = {4, 4, -15, -15, 104, 208, -15, 209};
        int[] costsOf0 = {0, 1, 2, 0, 7, 0, 3, 1};
        promise = "41 cost";
        due("-1", x.cost(-1), -1);
        due("8", x.cost(8), -1);
        due("nothing", x.cost(0), -11);
        due("a row", x.cost(1), -12);
        promise = "42 toss";
        due("-1", x.toss(-1), -1);
        due("8", x.toss(8), -1);
        due("nothing", x.toss(0), -11);
        due("a row", x.toss(1), -12);
        for (int sort = 0; sort < 8; sort++) {
            promise = "41 cost of " + sort;
            x.keep(0, 1, sort, 4);
            due("cost", x.cost(0), costs[sort]);
            promise = "42 toss of " + sort;
            due("toss", x.toss(0), failures[sort]);
            x.keep(0, 1, sort, 0);
            due("toss of figure 0", x.toss(0), -15);
            promise = "41 cost of " + sort;
            due("cost of figure 0", x.cost(0), costsOf0[sort]);
        }
    }
}
