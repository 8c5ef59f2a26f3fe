import java.math.BigInteger;
import java.util.ArrayList;
import java.util.List;
import java.util.Random;

/**
 * Random runs, each call answered by the class and by a second, plain reading of the document that
 * tries everything out and shares no code with it.
 */
public final class ModelTest {
    private static final int RUNS = 600;
    private static final int CALLS = 500;

    // ---- the plain reading

    private static final class Bulb {
        int sort;
        int figure;
        int worn;
        boolean out;
        boolean loosened;

        Bulb(int sort, int figure) {
            this.sort = sort;
            this.figure = figure;
        }

        Bulb same() {
            Bulb b = new Bulb(sort, figure);
            b.worn = worn;
            b.out = out;
            b.loosened = loosened;
            return b;
        }

        int life() {
            int[] lives = {
                60 + 10 * figure, 60 + 10 * figure, (60 + 10 * figure) / 2, 60 + 10 * figure,
                60 + 10 * figure, 40 + 10 * figure, 150, 80 + 20 * figure,
            };
            return lives[sort];
        }

        int glow() {
            return new int[] {4, 4, 1, 0, 4, 3, 4 + figure / 2, 5}[sort];
        }

        boolean leads(int h) {
            if (sort == 3) {
                return true;
            }
            if (out) {
                return false;
            }
            boolean cold = sort == 2 && worn >= 10 * figure && h % 2 == 1;
            boolean blinks = sort == 4 && h % (figure + 2) == 0;
            boolean hangs = sort == 1 && loosened;
            return !cold && !blinks && !hangs;
        }
    }

    private static final class Row {
        final int kind;
        final int[] at;

        Row(int kind, int n) {
            this.kind = kind;
            at = new int[n];
        }

        boolean skips(int i) {
            return at[i] == (kind == 0 ? -128 : kind == 1 ? -32768 : Integer.MIN_VALUE);
        }
    }

    private static final class Model {
        List<Bulb> all = new ArrayList<>();
        int spares = 1;
        int hour;
        int lit;
        int hand;
        int seconds;
        Model image;
        Object[] shelves = new Object[8];

        Model same() {
            Model m = new Model();
            m.take(this);
            return m;
        }

        void take(Model m) {
            all = new ArrayList<>();
            for (Bulb b : m.all) {
                all.add(b.same());
            }
            spares = m.spares;
            hour = m.hour;
            lit = m.lit;
            hand = m.hand;
            seconds = m.seconds;
        }

        int size() {
            return all.size();
        }

        boolean no(int b) {
            return b < 0 || b >= size();
        }

        boolean burns(List<Bulb> string, int h) {
            if (string.isEmpty()) {
                return false;
            }
            for (Bulb b : string) {
                if (!b.leads(h)) {
                    return false;
                }
            }
            return true;
        }

        int wholeIn(List<Bulb> string) {
            int n = 0;
            for (Bulb b : string) {
                n += b.out ? 0 : 1;
            }
            return n;
        }

        void wear(List<Bulb> string, boolean frost) {
            int n = wholeIn(string);
            int volts = n == 0 ? 0 : 60 / n;
            if (frost) {
                volts *= 2;
            }
            for (Bulb b : string) {
                if (!b.out) {
                    b.worn = Math.min(999, b.worn + b.glow() + volts);
                    b.out = b.worn >= b.life();
                }
            }
        }

        void loosen() {
            for (Bulb b : all) {
                if (b.sort == 1 && hour % (b.figure + 3) == 0) {
                    b.loosened = true;
                }
            }
        }

        boolean hour(boolean frost) {
            hour++;
            boolean burns = burns(all, hour);
            if (burns) {
                lit = Math.min(999, lit + 1);
                wear(all, frost);
            }
            loosen();
            return burns;
        }

        Model on(int n) {
            Model m = same();
            for (int k = 0; k < n; k++) {
                m.hour(false);
            }
            return m;
        }

        int wholeBits() {
            int bits = 0;
            for (int b = 0; b < size(); b++) {
                bits |= all.get(b).out ? 0 : 1 << b;
            }
            return bits;
        }

        int wornAll() {
            int sum = 0;
            for (Bulb b : all) {
                sum += b.worn;
            }
            return sum;
        }

        boolean badTool(int tool, int i, int j) {
            return tool < 0 || tool > 4 || no(i) || no(j) || i > j;
        }

        int seconds(int tool, int i, int j) {
            int[] by = {2, 1, 3 + j - i, 6 + 2 * (j - i), 8};
            return by[tool] + Math.abs(hand - i);
        }

        int hand(int tool, int i, int j) {
            return tool == 2 || tool == 3 ? j : i;
        }

        int told(int tool, int i, int j) {
            int h = hour + 1;
            if (tool == 0) {
                return all.get(i).worn >= all.get(i).life() / 2 ? 1 : 0;
            }
            if (tool == 1) {
                Model m = same();
                m.all.get(i).loosened = false;
                return m.burns(m.all, h) ? 1 : 0;
            }
            for (int b = 0; b < size(); b++) {
                boolean asked = tool == 2 ? b >= i && b <= j : tool == 3 ? b < i || b > j : b != i;
                if (asked && !all.get(b).leads(h)) {
                    return 0;
                }
            }
            return 1;
        }

        int use(int tool, int i, int j) {
            if (badTool(tool, i, j)) {
                return -1;
            }
            int told = told(tool, i, j);
            if (tool == 1) {
                all.get(i).loosened = false;
            }
            seconds = Math.min(9999, seconds + seconds(tool, i, j));
            hand = hand(tool, i, j);
            return told;
        }

        int twist(int b) {
            if (no(b)) {
                return -1;
            }
            if (spares == 0) {
                return -3;
            }
            int took = 8 + Math.abs(hand - b);
            seconds = Math.min(9999, seconds + took);
            hand = b;
            all.set(b, new Bulb(6, 5));
            spares--;
            return took;
        }

        int hours(int n) {
            if (n < 1 || n > 60) {
                return -1;
            }
            if (hour + n > 999) {
                return -3;
            }
            take(on(n));
            return lit;
        }

        // ---- the text

        int text(int d) {
            if (d < 0 || d > 7) {
                return -1;
            }
            if (shelves[d] == null) {
                return -11;
            }
            if (!(shelves[d] instanceof Row) || ((Row) shelves[d]).kind != 0) {
                return -12;
            }
            StringBuilder sb = new StringBuilder();
            for (int v : ((Row) shelves[d]).at) {
                sb.append((char) (v & 255));
            }
            String text = sb.toString();
            String good = readable(text);
            if (good.length() < text.length() || !text.endsWith(";")) {
                return -1000 - good.length();
            }
            Model m = same();
            int count = 0;
            int place = 0;
            for (String s : text.split(";")) {
                if (!m.statement(s)) {
                    return -2000 - place;
                }
                count++;
                place += s.length() + 1;
            }
            take(m);
            return count;
        }

        /** The longest start of it with which some text of statements starts. */
        String readable(String text) {
            String[] forms = {"b##;", "w####;", "o#;", "s#;", "t#;", "u###;", "h##;"};
            String form = "";
            for (int i = 0; i < text.length(); i++) {
                char c = text.charAt(i);
                if (form.isEmpty()) {
                    for (String f : forms) {
                        if (f.charAt(0) == c) {
                            form = f;
                        }
                    }
                    if (form.isEmpty()) {
                        return text.substring(0, i);
                    }
                } else if (form.charAt(0) == '#' ? c < '0' || c > '9' : c != ';') {
                    return text.substring(0, i);
                }
                form = form.substring(1);
            }
            return text;
        }

        boolean statement(String s) {
            int[] n = new int[5];
            for (int i = 1; i < s.length(); i++) {
                n[i] = s.charAt(i) - '0';
            }
            switch (s.charAt(0)) {
                case 'b':
                    if (n[1] > 7 || size() == 10) {
                        return false;
                    }
                    all.add(new Bulb(n[1], n[2]));
                    return true;
                case 'w':
                    if (no(n[1])) {
                        return false;
                    }
                    all.get(n[1]).worn = Integer.parseInt(s.substring(2));
                    return true;
                case 'o':
                    if (no(n[1])) {
                        return false;
                    }
                    all.get(n[1]).out = !all.get(n[1]).out;
                    return true;
                case 's':
                    spares = n[1];
                    return true;
                case 't':
                    return twist(n[1]) >= 0;
                case 'u':
                    return use(n[1], n[2], n[3]) >= 0;
                default:
                    return hours(Integer.parseInt(s.substring(1))) >= 0;
            }
        }

        // ---- in mind

        int goes(int b) {
            if (b < -1 || b >= size()) {
                return -1;
            }
            for (int k = 0; k <= 60; k++) {
                Model m = on(k);
                if (b >= 0 && m.all.get(b).out) {
                    return k;
                }
                for (int i = 0; b < 0 && i < size(); i++) {
                    if (!all.get(i).out && m.all.get(i).out) {
                        return i;
                    }
                }
            }
            return -4;
        }

        int dark() {
            for (int k = 0; k < 60; k++) {
                Model m = on(k);
                if (!m.burns(m.all, m.hour + 1)) {
                    return k + 1;
                }
            }
            return -4;
        }

        int lights(int what) {
            if (what < 0 || what > 4) {
                return -1;
            }
            if (what == 0) {
                return burns(all, hour + 1) ? 1 : 0;
            }
            if (what == 3) {
                String hours = "";
                Model m = same();
                for (int k = 0; k < 60; k++) {
                    hours += m.hour(false) ? "1" : " ";
                }
                int longest = 0;
                for (String run : hours.split(" ")) {
                    longest = Math.max(longest, run.length());
                }
                return longest;
            }
            int bits = 0;
            int weakest = -4;
            for (int i = size() - 1; i >= 0; i--) {
                Bulb b = all.get(i);
                if (what == 1 && !b.leads(hour + 1) || what == 2 && told(0, i, i) == 1) {
                    bits += 1 << i;
                }
                if (!b.out && (weakest < 0 || b.life() - b.worn
                        <= all.get(weakest).life() - all.get(weakest).worn)) {
                    weakest = i;
                }
            }
            return what == 4 ? weakest : bits;
        }

        int halves(int a, int b, int what) {
            if (no(a) || no(b) || a > b || what < 0 || what > 1) {
                return -1;
            }
            int[] best = worst(b - a + 1);
            return what == 0 ? best[0] : a == b ? -4 : a + best[1];
        }

        int[] worst(int length) {
            if (length == 1) {
                return new int[] {0, -4};
            }
            int[] best = {1000000, 0};
            for (int k = 0; k < length - 1; k++) {
                int by = 6 + 2 * k + Math.max(worst(k + 1)[0], worst(length - k - 1)[0]);
                if (by < best[0]) {
                    best = new int[] {by, k};
                }
            }
            return best;
        }

        long mean(int a, int b, int part) {
            if (no(a) || no(b) || a > b || part < 0 || part > 1) {
                return 1000000001L;
            }
            return part(BigInteger.valueOf(weighed(a, b)), BigInteger.valueOf(weights(a, b)), part);
        }

        long weights(int a, int b) {
            long sum = 0;
            for (int i = a; i <= b; i++) {
                sum += all.get(i).worn + 1;
            }
            return sum;
        }

        long weighed(int a, int b) {
            if (a == b) {
                return 0;
            }
            long best = Long.MAX_VALUE;
            for (int k = a; k < b; k++) {
                long by = (6 + 2 * (k - a)) * weights(a, b) + weighed(a, k) + weighed(k + 1, b);
                best = Math.min(best, by);
            }
            return best;
        }

        long part(BigInteger above, BigInteger below, int part) {
            if (below.signum() == 0) {
                return part;
            }
            BigInteger g = above.gcd(below);
            return (part == 0 ? above : below).divide(g).longValueExact();
        }

        int order(int set, int what) {
            if (set < 0 || set >= 1 << size() || Integer.bitCount(set) > 5 || what < 0 || what > 1) {
                return -1;
            }
            List<Integer> left = new ArrayList<>();
            for (int i = 0; i < size(); i++) {
                if ((set & 1 << i) != 0) {
                    left.add(i);
                }
            }
            long[] best = {Long.MAX_VALUE, 0};
            tryOrders(left, hand, 0, 0, 1, best);
            return (int) best[1 - what];
        }

        void tryOrders(List<Integer> left, int at, int time, long sum, long number, long[] best) {
            if (left.isEmpty()) {
                if (sum < best[0]) {
                    best[0] = sum;
                    best[1] = number;
                }
                return;
            }
            for (int i : left) {
                List<Integer> rest = new ArrayList<>(left);
                rest.remove((Integer) i);
                int then = time + 8 + Math.abs(at - i);
                tryOrders(rest, i, then, sum + then * weights(i, i), 10 * number + i, best);
            }
        }

        int rowRefusal(int d) {
            return shelves[d] == null ? -11 : shelves[d] instanceof Row ? 0 : -12;
        }

        int suspects(int d, int what) {
            if (d < 0 || d > 7 || what < 0 || what > 1) {
                return -1;
            }
            if (rowRefusal(d) != 0) {
                return rowRefusal(d);
            }
            int[] at = ((Row) shelves[d]).at;
            if (at.length % 3 != 0) {
                return -13;
            }
            for (int k = 0; k < at.length; k += 3) {
                if (no(at[k]) || no(at[k + 1]) || at[k] > at[k + 1]) {
                    return -13;
                }
            }
            int bits = 0;
            int twos = 0;
            for (int dark = 0; dark < 1 << size(); dark++) {
                boolean so = true;
                for (int k = 0; k < at.length; k += 3) {
                    int rest = dark;
                    for (int b = at[k]; b <= at[k + 1]; b++) {
                        rest &= ~(1 << b);
                    }
                    so &= rest == 0 == (at[k + 2] == 1);
                }
                if (so && Integer.bitCount(dark) == 1) {
                    bits |= dark;
                }
                if (so && Integer.bitCount(dark) == 2) {
                    twos++;
                }
            }
            return what == 0 ? bits : twos;
        }

        int buy(int n) {
            if (n < 0 || n > 60) {
                return -1;
            }
            for (int s = 0; s < 10; s++) {
                Model m = same();
                m.spares = s;
                boolean so = true;
                for (int k = 0; k < n && so; k++) {
                    for (int b = 0; b < size(); b++) {
                        if (m.all.get(b).out) {
                            m.twist(b);
                        }
                    }
                    so = m.hour(false);
                }
                if (so) {
                    return s;
                }
            }
            return -4;
        }

        int light(int k, int n) {
            if (k < 0 || k != 0 && k >= size() || n < 0 || n > 30) {
                return -1;
            }
            Model m = same();
            int light = 0;
            for (int h = 0; h < n; h++) {
                m.hour++;
                List<List<Bulb>> strings = List.of(m.all.subList(0, k), m.all.subList(k, size()));
                for (List<Bulb> string : strings) {
                    if (burns(string, m.hour)) {
                        light += wholeIn(string);
                        wear(string, false);
                    }
                }
                m.loosen();
            }
            return light;
        }

        int split(int n, int what) {
            if (n < 0 || n > 30 || what < 0 || what > 1) {
                return -1;
            }
            int best = 0;
            for (int k = 0; k < size(); k++) {
                best = light(k, n) > light(best, n) ? k : best;
            }
            return what == 0 ? best : light(best, n);
        }

        int beat(int b, int n, int what) {
            if (no(b) || n < 0 || n > 60 || what < 0 || what > 1) {
                return -1;
            }
            int best = 0;
            int most = -1;
            for (int f = 0; f < 10; f++) {
                Model m = same();
                m.all.get(b).figure = f;
                m.lit = 0;
                int burnt = m.on(n).lit;
                if (burnt > most) {
                    most = burnt;
                    best = f;
                }
            }
            return what == 0 ? best : most;
        }

        int end(int what) {
            if (what < 0 || what > 1) {
                return -1;
            }
            int[] sums = new int[2];
            for (int b = 0; b < size(); b++) {
                sums[0] += b * (all.get(b).worn + 1);
                sums[1] += (size() - 1 - b) * (all.get(b).worn + 1);
            }
            int end = sums[1] < sums[0] ? 1 : 0;
            return what == 0 ? end : sums[end];
        }

        boolean wornSo(Row row, int b, int first) {
            for (int i = 0; i < row.at.length; i++) {
                if (!row.skips(i) && on(i + first).all.get(b).worn != row.at[i]) {
                    return false;
                }
            }
            return true;
        }

        int whatIs(int d, int b, int what) {
            if (d < 0 || d > 7 || no(b) || what < 0 || what > 1) {
                return -1;
            }
            if (rowRefusal(d) != 0) {
                return rowRefusal(d);
            }
            int bits = 0;
            for (int v = 0; v < (what == 0 ? 8 : 10); v++) {
                Model m = same();
                if (what == 0) {
                    m.all.get(b).sort = v;
                } else {
                    m.all.get(b).figure = v;
                }
                bits |= m.wornSo((Row) shelves[d], b, 0) ? 1 << v : 0;
            }
            return bits;
        }

        int wornFrom(int d, int b, int what) {
            if (d < 0 || d > 7 || no(b) || what < 0 || what > 2) {
                return -1;
            }
            if (rowRefusal(d) != 0) {
                return rowRefusal(d);
            }
            List<Integer> found = new ArrayList<>();
            for (int w = 0; w < 100; w++) {
                Model m = same();
                m.all.get(b).worn = w;
                if (m.wornSo((Row) shelves[d], b, 1)) {
                    found.add(w);
                }
            }
            if (what == 0) {
                return found.size();
            }
            return found.isEmpty() ? -4 : found.get(what == 1 ? 0 : found.size() - 1);
        }

        long frost(int b, int n, int t, int part) {
            if (no(b) || n < 0 || n > 7 || t < 2 || t > 20 || part < 0 || part > 1) {
                return 1000000001L;
            }
            return part(wholeOdds(b, n, t), BigInteger.valueOf(t).pow(n), part);
        }

        BigInteger wholeOdds(int b, int n, int t) {
            if (n == 0) {
                return all.get(b).out ? BigInteger.ZERO : BigInteger.ONE;
            }
            Model frost = same();
            frost.hour(true);
            BigInteger mild = on(1).wholeOdds(b, n - 1, t);
            return mild.multiply(BigInteger.valueOf(t - 1)).add(frost.wholeOdds(b, n - 1, t));
        }

        long share(int b, int part) {
            if (no(b) || part < 0 || part > 1) {
                return 1000000001L;
            }
            return part(BigInteger.valueOf(all.get(b).worn), BigInteger.valueOf(wornAll()), part);
        }

        int forgedOrJudged(int d, boolean judged) {
            if (d < 0 || d > 7) {
                return -1;
            }
            if (rowRefusal(d) != 0) {
                return rowRefusal(d);
            }
            Row row = (Row) shelves[d];
            for (int i = 0; i < row.at.length; i++) {
                boolean so = judged
                        ? row.skips(i) || row.at[i] == wholeIn(on(i).all)
                        : i < size() && all.get(i).sort == row.at[i];
                if (!so) {
                    return i;
                }
            }
            return -4;
        }

        int winters(int n, int seed, int what) {
            if (n < 1 || n > 20 || what < 0 || what > 1) {
                return -1;
            }
            int z = seed;
            int sum = 0;
            for (int k = 0; k < n; k++) {
                Model m = same();
                for (Bulb b : m.all) {
                    z = (int) (z * 1103515245L + 12345);
                    b.figure = (z >>> 16 & 32767) % 10;
                }
                m = m.on(20);
                sum += what == 0 ? m.lit - lit : size() - m.wholeIn(m.all);
            }
            return sum;
        }

        int bulb(int b, int what) {
            if (no(b) || what < 0 || what > 7) {
                return -1;
            }
            Bulb a = all.get(b);
            int[] is = {
                a.sort, a.figure, a.worn, a.out ? 0 : 1, a.loosened ? 0 : 1, a.life(), a.glow(),
                a.leads(hour + 1) ? 1 : 0,
            };
            return is[what];
        }

        int hangs(int d) {
            if (d < 0 || d > 7) {
                return -1;
            }
            if (shelves[d] == null) {
                return -11;
            }
            if (shelves[d] instanceof Row) {
                return -12;
            }
            if (size() == 10) {
                return -2;
            }
            all.add(((Bulb) shelves[d]).same());
            return size() - 1;
        }

        int count(int what) {
            int seated = 0;
            for (int b = 0; b < size(); b++) {
                seated |= all.get(b).loosened ? 0 : 1 << b;
            }
            int[] is = {size(), hour, lit, spares, seconds, hand, wholeBits(), seated};
            return what < 0 || what > 7 ? -1 : is[what];
        }

        int cost(int d, boolean tossed) {
            if (d < 0 || d > 7) {
                return -1;
            }
            if (shelves[d] == null) {
                return -11;
            }
            if (shelves[d] instanceof Row) {
                return -12;
            }
            int f = ((Bulb) shelves[d]).figure;
            int sort = ((Bulb) shelves[d]).sort;
            if (!tossed) {
                return new int[] {f, 1, f + 2, 0, 7, 2 * f, 3, 2 * f + 1}[sort];
            }
            if (f == 0) {
                return -15;
            }
            return new int[] {f, f, -15, -15, 100 + f, 200 + 2 * f, -15, 201 + 2 * f}[sort];
        }

        int copy(int d, int i, int e, int j, int n) {
            if (d < 0 || d > 7 || e < 0 || e > 7) {
                return -1;
            }
            if (shelves[d] == null || shelves[e] == null) {
                return -11;
            }
            if (rowRefusal(d) != 0 || rowRefusal(e) != 0 || ((Row) shelves[d]).kind != ((Row) shelves[e]).kind) {
                return -12;
            }
            int[] from = ((Row) shelves[d]).at;
            int[] to = ((Row) shelves[e]).at;
            if (n < 0 || i < 0 || j < 0 || (long) i + n > from.length || (long) j + n > to.length) {
                return -13;
            }
            int[] held = from.clone();
            for (int k = 0; k < n; k++) {
                to[j + k] = held[i + k];
            }
            return n;
        }

        int put(int d, int i, int v) {
            if (d < 0 || d > 7) {
                return -1;
            }
            if (rowRefusal(d) != 0) {
                return rowRefusal(d);
            }
            Row row = (Row) shelves[d];
            if (i < 0 || i >= row.at.length) {
                return -13;
            }
            row.at[i] = row.kind == 0 ? (byte) v : row.kind == 1 ? (short) v : v;
            return 0;
        }

        int row(int d, int sort, int n) {
            if (d < 0 || d > 7 || sort < 0 || sort > 2 || n > 100) {
                return -1;
            }
            if (n < 0) {
                return -14;
            }
            shelves[d] = new Row(sort, n);
            return 0;
        }

        int keep(int d, int what, int k, int figure) {
            boolean no = d < 0 || d > 7 || what < 0 || what > 1;
            if (no || what == 1 && (k < 0 || k > 7 || figure < 0 || figure > 9)) {
                return -1;
            }
            shelves[d] = what == 0 ? null : new Bulb(k, figure);
            return 0;
        }
    }

    // ---- the runs

    private final Random random;
    private final OneIsOut x = new OneIsOut();
    private final Model m = new Model();
    private final StringBuilder calls = new StringBuilder();
    private boolean wrong;

    private ModelTest(int seed) {
        random = new Random(seed);
    }

    private int below(int n) {
        return random.nextInt(n);
    }

    /** Mostly 0 .. n, now and then just outside or far off. */
    private int about(int n) {
        int luck = below(30);
        if (luck == 0) {
            return new int[] {-1, n + 1, Integer.MIN_VALUE, Integer.MAX_VALUE, -2, n + 2}[below(6)];
        }
        return below(n + 1);
    }

    private int someBulb() {
        return below(20) == 0 ? about(10) : m.size() == 0 ? 0 : below(m.size());
    }

    private void due(String call, long got, long want) {
        calls.append(call).append(" = ").append(got).append('\n');
        if (got != want) {
            wrong = true;
            calls.append("  due is ").append(want).append('\n');
        }
    }

    private void write(int d, int kind, int[] values) {
        due("row", x.row(d, kind, values.length), m.row(d, kind, values.length));
        for (int i = 0; i < values.length; i++) {
            due("put " + d + " " + i + " " + values[i], x.put(d, i, values[i]), m.put(d, i, values[i]));
        }
    }

    private void writeText() {
        StringBuilder text = new StringBuilder();
        int statements = below(6) + (below(4) == 0 ? 0 : 1);
        for (int s = 0; s < statements; s++) {
            int kind = below(9);
            int b = someBulb() & 15;
            if (kind == 0 || m.size() < 4) {
                text.append('b').append(below(8)).append(below(10));
            } else if (kind == 1) {
                text.append('w').append(b).append(below(2)).append(below(10)).append(below(10));
            } else if (kind == 2) {
                text.append('o').append(b);
            } else if (kind == 3) {
                text.append('s').append(below(10));
            } else if (kind == 4) {
                text.append('t').append(b);
            } else if (kind == 5) {
                text.append('u').append(below(5)).append(b).append(below(10));
            } else if (kind == 6) {
                text.append('h').append(below(7)).append(below(10));
            } else {
                text.append('h').append(0).append(1 + below(5));
            }
            text.append(';');
        }
        if (below(6) == 0 && text.length() > 0) {
            text.setCharAt(below(text.length()), "bwosth0123456789;:/ ".charAt(below(20)));
        }
        if (below(12) == 0) {
            text.setLength(below(text.length() + 1));
        }
        int[] bytes = new int[Math.min(100, text.length())];
        for (int i = 0; i < bytes.length; i++) {
            bytes[i] = text.charAt(i);
        }
        write(0, 0, bytes);
        due("string 0 " + text, x.string(0), m.text(0));
    }

    /** A row of what is so, with some of it skipped and now and then one that is not so. */
    private int[] soRow(int kind, int b, int first, boolean judged) {
        int[] row = new int[below(below(6) == 0 ? 30 : 8)];
        Model like = m.same();
        if (first == 1 && below(2) == 0) {
            like.all.get(b).worn = below(100);
        }
        int least = kind == 0 ? -128 : kind == 1 ? -32768 : Integer.MIN_VALUE;
        for (int i = 0; i < row.length; i++) {
            Model then = like.on(i + first);
            row[i] = judged ? then.wholeIn(then.all) : then.all.get(b).worn;
            row[i] = below(2) == 0 ? least : row[i] + (below(40) == 0 ? 1 : 0);
        }
        return row;
    }

    private void rows() {
        int b = someBulb();
        int kind = below(3);
        int what = about(1);
        if (m.no(b)) {
            due("whatIs " + b, x.whatIs(1, b, what), m.whatIs(1, b, what));
            return;
        }
        write(1, kind, soRow(kind, b, 0, false));
        due("whatIs " + b + " " + what, x.whatIs(1, b, what), m.whatIs(1, b, what));
        write(1, kind, soRow(kind, b, 1, false));
        what = about(2);
        due("wornFrom " + b + " " + what, x.wornFrom(1, b, what), m.wornFrom(1, b, what));
        write(1, kind, soRow(kind, b, 0, true));
        due("judge", x.judge(1), m.forgedOrJudged(1, true));
        int[] sorts = new int[below(m.size() + 2)];
        for (int i = 0; i < sorts.length; i++) {
            sorts[i] = below(12) == 0 || i >= m.size() ? below(8) : m.bulb(i, 0);
        }
        write(1, kind, sorts);
        due("forged", x.forged(1), m.forgedOrJudged(1, false));
        int[] wires = new int[3 * below(4) + (below(10) == 0 ? 1 : 0)];
        for (int i = 0; i + 2 < wires.length; i += 3) {
            wires[i] = below(m.size());
            wires[i + 1] = below(8) == 0 ? about(9) : wires[i] + below(m.size() - wires[i]);
            wires[i + 2] = below(3);
        }
        write(1, kind, wires);
        what = about(1);
        due("suspects " + what, x.suspects(1, what), m.suspects(1, what));
        due("suspects " + what, x.suspects(1, 1 - what), m.suspects(1, 1 - what));
    }

    private void asBuilt() {
        int b = someBulb();
        int v = about(9);
        switch (below(12)) {
            case 0:
                due("wears " + b, x.wears(b, v * v), m.no(b) || v * v > 999 || v * v < 0 ? -1 : wears(b, v * v));
                break;
            case 1:
                due("breaks " + b, x.breaks(b), m.no(b) ? -1 : breaks(b));
                break;
            case 2:
                due("spares " + v, x.spares(v), v < 0 || v > 9 ? -1 : spares(v));
                break;
            case 3:
                due("twist " + b, x.twist(b), m.twist(b));
                break;
            case 4:
                due("hours " + v, x.hours(v), m.hours(v));
                break;
            case 5:
                int k = about(60);
                due("hours " + k, x.hours(k), m.hours(k));
                break;
            case 6:
                if (below(3) == 0) {
                    m.image = m.same();
                    due("image", x.image(), m.hour);
                }
                break;
            case 7:
                due("restore", x.restore(), m.image == null ? -3 : restore());
                break;
            case 8:
                writeText();
                break;
            case 9:
                int d = 2 + below(4);
                int sort = about(7);
                due("keep", x.keep(d, 1, sort, v), m.keep(d, 1, sort, v));
                due("hangs " + d, x.hangs(d), m.hangs(d));
                break;
            default:
                int tool = about(4);
                int j = someBulb();
                due("use " + tool + " " + b + " " + j, x.use(tool, b, j), m.use(tool, b, j));
        }
    }

    private int wears(int b, int v) {
        int old = m.all.get(b).worn;
        m.all.get(b).worn = v;
        return old;
    }

    private int breaks(int b) {
        m.all.get(b).out = !m.all.get(b).out;
        return m.all.get(b).out ? 0 : 1;
    }

    private int spares(int v) {
        int old = m.spares;
        m.spares = v;
        return old;
    }

    private int restore() {
        m.take(m.image);
        return m.hour;
    }

    private int then(int n, int what) {
        if (n < 0 || n > 60 || what < 0 || what > 2) {
            return -1;
        }
        Model then = m.on(n);
        return what == 0 ? then.wholeBits() : what == 1 ? then.lit : then.wornAll();
    }

    private int tool(int tool, int i, int j, int what) {
        if (m.badTool(tool, i, j) || what < 0 || what > 2) {
            return -1;
        }
        return what == 0 ? m.told(tool, i, j) : what == 1 ? m.seconds(tool, i, j) : m.hand(tool, i, j);
    }

    private void inMind() {
        int b = someBulb();
        int j = someBulb();
        int n = about(60);
        int what = about(2);
        int one = about(1);
        switch (below(22)) {
            case 0:
                due("then " + n + " " + what, x.then(n, what), then(n, what));
                break;
            case 1:
                boolean no = m.no(b) || n < 0 || n > 60;
                due("wornThen " + b + " " + n, x.wornThen(b, n), no ? -1 : m.on(n).all.get(b).worn);
                break;
            case 2:
                due("goes " + b, x.goes(b), m.goes(b));
                break;
            case 3:
                due("goes", x.goes(-1), m.goes(-1));
                due("goes", x.goes(-2), m.goes(-2));
                break;
            case 4:
                due("dark", x.dark(), m.dark());
                break;
            case 5:
                int of = about(4);
                due("lights " + of, x.lights(of), m.lights(of));
                break;
            case 6:
                int tool = about(4);
                due("tool " + tool + " " + b + " " + j, x.tool(tool, b, j, what), tool(tool, b, j, what));
                break;
            case 7:
                due("halves " + b + " " + j, x.halves(b, j, one), m.halves(b, j, one));
                break;
            case 8:
                due("mean " + b + " " + j, x.mean(b, j, one), m.mean(b, j, one));
                break;
            case 9:
                int set = about((1 << m.size()) - 1);
                due("order " + set, x.order(set, one), m.order(set, one));
                break;
            case 10:
                due("buy " + n, x.buy(n), m.buy(n));
                break;
            case 11:
                int few = about(9);
                due("buy " + few, x.buy(few), m.buy(few));
                break;
            case 12:
                int half = about(30);
                due("light " + b, x.light(b, half), m.light(b, half));
                break;
            case 13:
                half = about(30);
                due("split " + half, x.split(half, one), m.split(half, one));
                break;
            case 14:
                due("beat " + b + " " + n, x.beat(b, n, one), m.beat(b, n, one));
                break;
            case 15:
                due("end", x.end(one), m.end(one));
                break;
            case 16:
                int f = about(below(8) == 0 ? 7 : 4);
                int t = 2 + about(18);
                due("frost " + b + " " + f + " " + t, x.frost(b, f, t, one), m.frost(b, f, t, one));
                break;
            case 17:
                due("share " + b, x.share(b, one), m.share(b, one));
                break;
            case 18:
                int z = random.nextInt();
                int winters = about(20);
                due("winters " + winters + " " + z, x.winters(winters, z, one), m.winters(winters, z, one));
                break;
            case 19:
                rows();
                break;
            case 20:
                int by = about(7);
                due("bulb " + b + " " + by, x.bulb(b, by), m.bulb(b, by));
                break;
            default:
                of = about(7);
                due("count " + of, x.count(of), m.count(of));
        }
    }

    private void onShelves() {
        int d = below(4) == 0 ? about(7) : 5 + below(3);
        int e = below(4) == 0 ? about(7) : 5 + below(3);
        switch (below(7)) {
            case 0:
                int what = about(1);
                int sort = about(7);
                int figure = about(9);
                due("keep " + d, x.keep(d, what, sort, figure), m.keep(d, what, sort, figure));
                break;
            case 1:
                int kind = about(2);
                int n = about(below(3) == 0 ? 100 : 5);
                due("row " + d, x.row(d, kind, n), m.row(d, kind, n));
                break;
            case 2:
                int at = about(6);
                int v = random.nextInt() >> below(32);
                due("put " + d, x.put(d, at, v), m.put(d, at, v));
                break;
            case 3:
                element(d, about(6));
                break;
            case 4:
                int i = about(3);
                int j = about(3);
                n = about(3);
                due("copy " + d + " " + i + " " + e + " " + j + " " + n, x.copy(d, i, e, j, n), m.copy(d, i, e, j, n));
                break;
            case 5:
                due("cost " + d, x.cost(d), m.cost(d, false));
                break;
            default:
                due("toss " + d, x.toss(d), m.cost(d, true));
        }
    }

    private void element(int d, int i) {
        long want = 0;
        String thrown = "none";
        if (d < 0 || d > 7) {
            thrown = "IllegalArgumentException";
        } else if (m.rowRefusal(d) != 0 || i < 0 || i >= ((Row) m.shelves[d]).at.length) {
            thrown = "IllegalStateException";
        } else {
            want = ((Row) m.shelves[d]).at[i];
        }
        long got = 0;
        String threw = "none";
        try {
            got = x.element(d, i);
        } catch (IllegalArgumentException | IllegalStateException e) {
            threw = e.getClass().getSimpleName();
        }
        due("element " + d + " " + i + " throws " + threw, threw.equals(thrown) ? 0 : 1, 0);
        due("element " + d + " " + i, got, want);
    }

    private void everything() {
        for (int what = 0; what < 8; what++) {
            due("count " + what, x.count(what), m.count(what));
        }
        for (int b = 0; b < m.size(); b++) {
            for (int what = 0; what < 8; what++) {
                due("bulb " + b + " " + what, x.bulb(b, what), m.bulb(b, what));
            }
        }
    }

    private boolean isRight() {
        for (int k = 0; k < CALLS && !wrong; k++) {
            int luck = below(10);
            if (k < 3) {
                writeText();
            } else if (luck < 3) {
                asBuilt();
            } else if (luck < 8) {
                inMind();
            } else {
                onShelves();
            }
            everything();
        }
        return !wrong;
    }

    public static void main(String[] args) {
        int runs = args.length > 0 ? Integer.parseInt(args[0]) : RUNS;
        for (int seed = 1; seed <= runs; seed++) {
            ModelTest run = new ModelTest(seed);
            if (!run.isRight()) {
                String calls = run.calls.toString();
                System.out.println("run " + seed + ":\n" + calls.substring(Math.max(0, calls.length() - 3000)));
                System.exit(1);
            }
        }
        System.out.println(runs + " random runs, none wrong");
    }
}
