import java.util.Map;
import java.util.Set;
import java.util.TreeMap;
import java.util.TreeSet;
import java.util.function.Supplier;
import java.util.function.ToLongFunction;

/**
 * What the edge tests share: strings made in few calls, answers that are due, and what stands behind
 * a call that must change nothing. No object is used for more than the 512 calls of the document.
 */
abstract class Edges {
    static final int MIN = Integer.MIN_VALUE;
    static final int MAX = Integer.MAX_VALUE;
    /** The refusal -1 as calls that answer a long tell it. */
    static final long LONG_REFUSED = 1000000001L;
    /** The least number of each kind of row. */
    static final int[] LEAST = {-128, -32768, MIN};
    static final String TEN = "09 09 09 09 09 09 09 09 09 09";

    static final Map<Integer, Set<Long>> ANSWERS = new TreeMap<>();
    private static int promise = 0;
    private static String test = "";
    private static int checks = 0;
    private static int wrong = 0;

    static void begin(int ofPromise, String name) {
        promise = ofPromise;
        test = name;
    }

    static int checks() {
        return checks;
    }

    static int wrong() {
        return wrong;
    }

    static void fault(String what) {
        wrong++;
        System.out.println(what);
    }

    static void due(String call, long got, long want) {
        checks++;
        ANSWERS.computeIfAbsent(promise, p -> new TreeSet<>()).add(want);
        if (got != want) {
            fault(test + ": " + call + " answered " + got + ", due is " + want);
        }
    }

    /** Numbers that are too small and too large, next to the edges and as far off as can be. */
    static int[] outside(int least, int most) {
        return new int[] {least - 1, most + 1, MIN, MAX};
    }

    /** A string of bulbs, each told by its SORT and FIGURE, a digit each; shelf 7 holds nothing then. */
    static OneIsOut of(String bulbs) {
        return hang(new OneIsOut(), bulbs);
    }

    static OneIsOut hang(OneIsOut x, String bulbs) {
        for (String bulb : bulbs.split(" ")) {
            x.keep(7, 1, bulb.charAt(0) - '0', bulb.charAt(1) - '0');
            x.hangs(7);
        }
        x.keep(7, 0, 0, 0);
        return x;
    }

    /** An empty string at an HOUR: nothing wears while nothing hangs. */
    static OneIsOut at(int hour) {
        OneIsOut x = new OneIsOut();
        pass(x, hour);
        return x;
    }

    /** Bulbs that are as new at an HOUR. */
    static OneIsOut at(int hour, String bulbs) {
        return hang(at(hour), bulbs);
    }

    static void pass(OneIsOut x, int hours) {
        for (int left = hours; left > 0; left -= 60) {
            x.hours(Math.min(left, 60));
        }
    }

    static OneIsOut worn(OneIsOut x, int... worn) {
        for (int b = 0; b < worn.length; b++) {
            x.wears(b, worn[b]);
        }
        return x;
    }

    static OneIsOut out(OneIsOut x, int... bulbs) {
        for (int b : bulbs) {
            x.breaks(b);
        }
        return x;
    }

    /** Shelf d gets a row of a kind with these elements. */
    static OneIsOut fill(OneIsOut x, int d, int kind, int... values) {
        x.row(d, kind, values.length);
        for (int i = 0; i < values.length; i++) {
            x.put(d, i, values[i]);
        }
        return x;
    }

    /** Shelf 0 gets a text as a row of bytes. */
    static OneIsOut write(OneIsOut x, String text) {
        return fill(x, 0, 0, text.chars().toArray());
    }

    static int told(OneIsOut x, String text) {
        return write(x, text).string(0);
    }

    static int[] same(int many, int v) {
        int[] values = new int[many];
        java.util.Arrays.fill(values, v);
        return values;
    }

    /** What element throws: 0 nothing, 1 IllegalArgumentException, 2 IllegalStateException. */
    static int thrown(OneIsOut x, int d, int i) {
        try {
            x.element(d, i);
            return 0;
        } catch (IllegalArgumentException e) {
            return e.getClass() == IllegalArgumentException.class ? 1 : 3;
        } catch (IllegalStateException e) {
            return e.getClass() == IllegalStateException.class ? 2 : 3;
        }
    }

    /** Something of everything: each sort once, some worn, OUT or hanging loose, THE IMAGE, full shelves. */
    static OneIsOut rich() {
        OneIsOut x = of("00 10 25 30 44 52 65 73");
        x.image();
        x.hours(3);
        worn(x, 20, 0, 31, 4, 5, 6, 77, 8);
        out(x, 3, 5);
        x.spares(4);
        x.use(3, 2, 4);
        fill(x, 0, 0, 'b', '0', '0', ';');
        x.keep(1, 1, 4, 3);
        fill(x, 2, 1, 300, -2, 7);
        fill(x, 3, 2, 0, 1, 1);
        x.row(5, 0, 0);
        x.keep(6, 1, 7, 9);
        return x;
    }

    /** The rich string with two bulbs more: there is no room. */
    static OneIsOut full() {
        return hang(rich(), "08 19");
    }

    /** A call that is refused: it tells so, and all is as it is without the call. */
    static void refused(long want, String call, Supplier<OneIsOut> made, ToLongFunction<OneIsOut> asked) {
        changesNothing(want, call, made, asked);
    }

    /** A question, or what is done in mind: it is answered, and all is as it is without the call. */
    static void inMind(long want, String call, Supplier<OneIsOut> made, ToLongFunction<OneIsOut> asked) {
        changesNothing(want, call, made, asked);
    }

    private static void changesNothing(long want, String call, Supplier<OneIsOut> made,
            ToLongFunction<OneIsOut> asked) {
        OneIsOut x = made.get();
        due(call, asked.applyAsLong(x), want);
        String found = state(x);
        String due = state(made.get());
        checks++;
        if (!found.equals(due)) {
            fault(test + ": " + call + " changed\n  " + due + " to\n  " + found);
        }
    }

    /** All that can be told of an object: its string, its shelves, and what its image brings back. */
    static String state(OneIsOut x) {
        StringBuilder s = new StringBuilder();
        theString(x, s);
        for (int d = 0; d < 8; d++) {
            s.append(" | ").append(x.cost(d)).append(' ').append(x.toss(d));
            theRow(x, d, s);
        }
        s.append(" | image ").append(x.restore());
        theString(x, s);
        return s.toString();
    }

    private static void theString(OneIsOut x, StringBuilder s) {
        for (int what = 0; what < 8; what++) {
            s.append(' ').append(x.count(what));
        }
        for (int b = 0; b < x.count(0); b++) {
            s.append(" /");
            for (int what = 0; what < 5; what++) {
                s.append(' ').append(x.bulb(b, what));
            }
        }
    }

    private static void theRow(OneIsOut x, int d, StringBuilder s) {
        try {
            for (int i = 0; i <= 100; i++) {
                s.append(' ').append(x.element(d, i));
            }
        } catch (IllegalStateException behindTheLast) {
            s.append('.');
        }
        // A copy of no elements tells which rows are of one kind, and changes nothing.
        for (int e = 0; e < d; e++) {
            s.append(x.copy(d, 0, e, 0, 0) == 0 ? " like " + e : "");
        }
    }
}
