import java.util.ArrayList;
import java.util.HashSet;
import java.util.List;
import java.util.PriorityQueue;
import java.util.Set;
import java.util.regex.Matcher;
import java.util.regex.Pattern;

/**
 * The document done the plain, slow way: texts by patterns, rows of REQUESTS by trying all of them.
 * It shares no way of doing with SaltBorder, so that a slip is seen where the two differ.
 */
final class PlainModel {
    private static final int UNKNOWN = -1, OUTSIDE = -2, STATE = -3, FULL = -4, NONE = -9;
    private static final long LOST = Long.MIN_VALUE;

    private static final class Guest {
        char kind;
        int mouth, arm;
    }

    private static final class Dish {
        int seat, worth;
    }

    private static final class Row {
        final int lane;
        final int[] cells;

        Row(int lane, int n) {
            this.lane = lane;
            this.cells = new int[n];
        }
    }

    private List<Guest> guests = new ArrayList<>();
    private List<Dish> dishes = new ArrayList<>();
    private List<int[]> readings = new ArrayList<>();
    private final Row[] rows = new Row[4];
    private int soup, salt, pepper, trace, fault;

    // ---- 1 the table

    int table(int sheet, int lane, int i, int n) {
        fault = 0;
        if (sheet < 0 || sheet > 3) return UNKNOWN;
        if (lane < 0 || lane > 2) return OUTSIDE;
        if (rows[sheet] != null && rows[sheet].lane != lane) return broken(2);
        if (rows[sheet] == null) return broken(1);
        if (n < 0) return broken(4);
        if (i < 0 || (long) i + n > rows[sheet].cells.length) return broken(3);
        StringBuilder text = new StringBuilder();
        for (int k = 0; k < n; k++) {
            int code = rows[sheet].cells[i + k];
            text.append(code < 0 || code > 127 ? '?' : (char) code);
        }
        return lay(text.toString());
    }

    private static List<Pattern> patterns() {
        List<Pattern> all = new ArrayList<>();
        for (int n = 3; n <= 8; n++) {
            StringBuilder pairs = new StringBuilder();
            for (int s = 0; s < n; s++) {
                for (int p = 0; p < n; p++) {
                    if (s != p) pairs.append(pairs.length() == 0 ? "" : "|").append(s).append(p);
                }
            }
            all.add(Pattern.compile("t[0-3](,[gac][0-9][0-3]){" + n + "}/(" + pairs + ")(;[0-"
                    + (n - 1) + "][0-9]){1,6}"));
        }
        return all;
    }

    private static final List<Pattern> TEXTS = patterns();

    private static boolean goesOn(String begin) {
        for (Pattern p : TEXTS) {
            Matcher m = p.matcher(begin);
            if (m.matches() || m.hitEnd()) return true;
        }
        return false;
    }

    private int lay(String text) {
        for (int k = 1; k <= text.length(); k++) {
            if (!goesOn(text.substring(0, k))) return -100 - (k - 1);
        }
        boolean whole = false;
        for (Pattern p : TEXTS) whole |= p.matcher(text).matches();
        if (!whole) return -100 - text.length();
        guests = new ArrayList<>();
        dishes = new ArrayList<>();
        readings = new ArrayList<>();
        String[] halves = text.split("/");
        String[] told = halves[0].split(",");
        soup = told[0].charAt(1) - '0';
        for (int k = 1; k < told.length; k++) {
            Guest g = new Guest();
            g.kind = told[k].charAt(0);
            g.mouth = told[k].charAt(1) - '0';
            g.arm = told[k].charAt(2) - '0';
            guests.add(g);
        }
        String[] parts = halves[1].split(";");
        salt = parts[0].charAt(0) - '0';
        pepper = parts[0].charAt(1) - '0';
        for (int k = 1; k < parts.length; k++) {
            Dish d = new Dish();
            d.seat = parts[k].charAt(0) - '0';
            d.worth = parts[k].charAt(1) - '0';
            dishes.add(d);
        }
        return guests.size();
    }

    private boolean noGuest(int g) { return g < 0 || g >= guests.size(); }

    private boolean noDish(int d) { return d < 0 || d >= dishes.size(); }

    private boolean noTable() { return guests.isEmpty(); }

    private int minutes(Guest g) {
        int whole = g.mouth + soup;
        if (g.kind == 'a') return whole == 0 ? 0 : whole - 1;
        if (g.kind == 'c') return whole >> 1;
        return whole;
    }

    private int owner(int seat, int s, int p) {
        int n = guests.size();
        for (int k = (s + 1) % n; k != p; k = (k + 1) % n) {
            if (k == seat) return 0;
        }
        for (int k = (p + 1) % n; k != s; k = (k + 1) % n) {
            if (k == seat) return 1;
        }
        return NONE;
    }

    private int landAt(int c, int s, int p) {
        return dishes.stream().filter(d -> owner(d.seat, s, p) == c).mapToInt(d -> d.worth).sum();
    }

    int ofGuest(int g, int what) {
        if (noGuest(g)) return UNKNOWN;
        if (what < 0 || what > 3) return OUTSIDE;
        Guest who = guests.get(g);
        return new int[] {"gac".indexOf(who.kind), who.mouth, who.arm, minutes(who)}[what];
    }

    int ofDish(int d, int what) {
        if (noDish(d)) return UNKNOWN;
        if (what < 0 || what > 2) return OUTSIDE;
        Dish dish = dishes.get(d);
        return new int[] {dish.seat, dish.worth, owner(dish.seat, salt, pepper)}[what];
    }

    int whose(int seat) {
        return noGuest(seat) ? UNKNOWN : owner(seat, salt, pepper);
    }

    int land(int c) {
        if (c != 0 && c != 1) return UNKNOWN;
        return noTable() ? STATE : landAt(c, salt, pepper);
    }

    int chew(int g, int v) {
        if (noGuest(g)) return UNKNOWN;
        if (v < 0 || v > 9) return OUTSIDE;
        int was = guests.get(g).mouth;
        guests.get(g).mouth = v;
        return was;
    }

    int cook(int v) {
        if (v < 0 || v > 3) return OUTSIDE;
        if (noTable()) return STATE;
        int was = soup;
        soup = v;
        return was;
    }

    int rate(int d, int v) {
        if (noDish(d)) return UNKNOWN;
        if (v < 0 || v > 9) return OUTSIDE;
        int was = dishes.get(d).worth;
        dishes.get(d).worth = v;
        return was;
    }

    int carry(int d, int seat) {
        if (noDish(d) || noGuest(seat)) return UNKNOWN;
        int was = dishes.get(d).seat;
        dishes.get(d).seat = seat;
        return was;
    }

    // ---- 2 requests

    /** SALT, PEPPER and MINUTES behind a REQUEST; null if it is not to be. */
    private int[] step(int s, int p, int r) {
        int n = guests.size();
        int by = r == 0 || r == 2 ? n - 1 : 1;
        int[] then = r <= 1 ? new int[] {(s + by) % n, p, minutes(guests.get(s))}
                : new int[] {s, (p + by) % n, minutes(guests.get(p))};
        return then[0] == then[1] ? null : then;
    }

    int pass(int r) {
        if (r < 0 || r > 3) return OUTSIDE;
        if (noTable()) return STATE;
        int[] then = step(salt, pepper, r);
        if (then == null) return STATE;
        salt = then[0];
        pepper = then[1];
        return then[2];
    }

    int dinner(int sheet, int lane, int i, int n, int what) {
        fault = 0;
        if (sheet < 0 || sheet > 3) return UNKNOWN;
        if (lane < 0 || lane > 2 || n < 0 || n > 40) return OUTSIDE;
        if (what < 0 || what > 15 || what > 5 && what < 10) return OUTSIDE;
        Row row = rows[sheet];
        if (row != null && row.lane != lane) return broken(2);
        if (row == null) return broken(1);
        if (i < 0 || (long) i + n > row.cells.length) return broken(3);
        if (noTable()) return STATE;
        for (int k = 0; k < n; k++) {
            if (row.cells[i + k] < 0 || row.cells[i + k] > 3) return OUTSIDE;
        }
        int s = salt, p = pepper, sum = 0;
        for (int k = 0; k < n; k++) {
            int[] then = step(s, p, row.cells[i + k]);
            if (then == null) return what == 1 ? k : -100 - k;
            s = then[0];
            p = then[1];
            sum += then[2];
        }
        if (what >= 10) return noDish(what - 10) ? NONE : owner(dishes.get(what - 10).seat, s, p);
        return new int[] {sum, NONE, landAt(0, s, p), landAt(1, s, p), s, p}[what];
    }

    // ---- 3 how to ask

    private static final class Way implements Comparable<Way> {
        final int s, p, minutes;
        final String row;

        Way(int s, int p, int minutes, String row) {
            this.s = s;
            this.p = p;
            this.minutes = minutes;
            this.row = row;
        }

        public int compareTo(Way o) {
            if (minutes != o.minutes) return Integer.compare(minutes, o.minutes);
            if (row.length() != o.row.length()) return Integer.compare(row.length(), o.row.length());
            return row.compareTo(o.row);
        }
    }

    private interface Goal {
        boolean isAt(int s, int p);
    }

    /** Rows from the best one on; a border is left out once a better row has come to it. */
    private Way best(Goal goal, boolean minutesCount) {
        PriorityQueue<Way> open = new PriorityQueue<>();
        Set<Integer> done = new HashSet<>();
        open.add(new Way(salt, pepper, 0, ""));
        while (!open.isEmpty()) {
            Way w = open.poll();
            if (!done.add(w.s * 100 + w.p)) continue;
            if (goal.isAt(w.s, w.p)) return w;
            for (int r = 0; r < 4; r++) {
                int[] then = step(w.s, w.p, r);
                if (then != null) {
                    open.add(new Way(then[0], then[1], w.minutes + (minutesCount ? then[2] : 0),
                            w.row + r));
                }
            }
        }
        return null;
    }

    private static int told(Way w, int k) {
        if (w == null) return NONE;
        if (k == -2) return w.minutes;
        if (k == -1) return w.row.length();
        return k < w.row.length() ? w.row.charAt(k) - '0' : NONE;
    }

    int ask(int d, int c, int k) {
        if (noDish(d) || c < 0 || c > 1) return UNKNOWN;
        if (k < -2 || k > 15) return OUTSIDE;
        return told(best((s, p) -> owner(dishes.get(d).seat, s, p) == c, true), k);
    }

    int treaty(int k) {
        if (k < -1 || k > 15) return OUTSIDE;
        if (noTable()) return STATE;
        return told(best((s, p) -> landAt(0, s, p) == landAt(1, s, p), false), k);
    }

    /** LEAD of COUNTRY 0 at the end, and the REQUEST that is made for it. */
    private int[] play(int s, int p, int turn, int n) {
        if (n == 0) return new int[] {100 + landAt(0, s, p) - landAt(1, s, p), NONE};
        int[] best = null;
        for (int r = 0; r < 4; r++) {
            int[] then = step(s, p, r);
            if (then == null) continue;
            int lead = play(then[0], then[1], 1 - turn, n - 1)[0];
            if (best == null || (turn == 0 ? lead > best[0] : lead < best[0])) {
                best = new int[] {lead, r};
            }
        }
        return best;
    }

    int game(int c, int n, int what) {
        if (c < 0 || c > 1) return UNKNOWN;
        if (n < 1 || n > 4 || what < 0 || what > 1) return OUTSIDE;
        if (noTable()) return STATE;
        int[] end = play(salt, pepper, c, n);
        if (what == 1) return end[1];
        return c == 0 ? end[0] : 200 - end[0];
    }

    int spilt(int set) {
        if (noTable()) return STATE;
        int n = guests.size();
        if (set < 0 || set >= 1 << n) return OUTSIDE;
        for (int size = 0; size <= n; size++) {
            for (int who = 0; who < 1 << n; who++) {
                if (Integer.bitCount(who) == size && wet(who) == set) return who;
            }
        }
        return NONE;
    }

    private int wet(int who) {
        int n = guests.size();
        int set = 0;
        for (int g = 0; g < n; g++) {
            for (int off = -3; off <= 3; off++) {
                if ((who & 1 << g) != 0 && Math.abs(off) <= guests.get(g).arm) {
                    set |= 1 << Math.floorMod(g + off, n);
                }
            }
        }
        return set;
    }

    private long homes(int s, int n) {
        if (n == 0) return s == salt ? 1 : 0;
        long sum = 0;
        for (int r = 0; r < 2; r++) {
            int[] then = step(s, pepper, r);
            if (then != null) sum += homes(then[0], n - 1);
        }
        return sum;
    }

    long home(int n) {
        return n < 0 || n > 20 || noTable() ? LOST : homes(salt, n);
    }

    // ---- 4 how long it took

    int reading(int g, int v) {
        if (noGuest(g)) return UNKNOWN;
        if (v < 0 || v > 19) return OUTSIDE;
        if (readings.size() == 8) return FULL;
        readings.add(new int[] {g, v});
        return readings.size() - 1;
    }

    int back(int k) {
        if (k < 0 || k > readings.size()) return OUTSIDE;
        readings = new ArrayList<>(readings.subList(0, readings.size() - k));
        return readings.size();
    }

    private int bitIfSo(int v) {
        for (int[] r : readings) {
            if (minutes(guests.get(r[0])) != r[1]) return 0;
        }
        return 1 << v;
    }

    int mouths(int g) {
        if (noGuest(g)) return UNKNOWN;
        int was = guests.get(g).mouth, set = 0;
        for (int v = 0; v <= 9; v++) {
            guests.get(g).mouth = v;
            set += bitIfSo(v);
        }
        guests.get(g).mouth = was;
        return set;
    }

    int kinds(int g) {
        if (noGuest(g)) return UNKNOWN;
        char was = guests.get(g).kind;
        int set = 0;
        for (int v = 0; v <= 2; v++) {
            guests.get(g).kind = "gac".charAt(v);
            set += bitIfSo(v);
        }
        guests.get(g).kind = was;
        return set;
    }

    int soups() {
        if (noTable()) return STATE;
        int was = soup, set = 0;
        for (int v = 0; v <= 3; v++) {
            soup = v;
            set += bitIfSo(v);
        }
        soup = was;
        return set;
    }

    long odds(int d, int c, int n, int which) {
        if (noDish(d) || c < 0 || c > 1) return LOST;
        if (n < 0 || n > 8 || which < 0 || which > 1) return LOST;
        int upper = 0, lower = 1 << n;
        for (int coins = 0; coins < lower; coins++) {
            int s = salt;
            for (int k = 0; k < n; k++) {
                int[] then = step(s, pepper, coins >> k & 1);
                if (then != null) s = then[0];
            }
            if (owner(dishes.get(d).seat, s, pepper) == c) upper++;
        }
        int by = gcd(upper, lower);
        return which == 0 ? upper / by : lower / by;
    }

    private static int gcd(int a, int b) {
        return b == 0 ? a : gcd(b, a % b);
    }

    // ---- 5 sheets, parts

    private int broken(int what) {
        fault = what;
        return -10 - what;
    }

    int sheet(int k, int lane, int n) {
        fault = 0;
        if (k < 0 || k > 3) return UNKNOWN;
        if (lane < 0 || lane > 2 || n > 60) return OUTSIDE;
        if (n < 0) return broken(4);
        rows[k] = new Row(lane, n);
        return 1;
    }

    int lose(int k) {
        if (k < 0 || k > 3) return UNKNOWN;
        int had = rows[k] == null ? 0 : 1;
        rows[k] = null;
        return had;
    }

    int put(int k, int i, int v) {
        fault = 0;
        if (k < 0 || k > 3) return UNKNOWN;
        if (rows[k] == null) return broken(1);
        if (i < 0 || i >= rows[k].cells.length) return broken(3);
        rows[k].cells[i] = rows[k].lane == 0 ? (byte) v : rows[k].lane == 1 ? (short) v : v;
        return 1;
    }

    long cell(int k, int i, int lane) {
        fault = 0;
        if (k < 0 || k > 3 || lane < 0 || lane > 2) return LOST;
        if (rows[k] == null) fault = 1;
        else if (rows[k].lane != lane) fault = 2;
        else if (i < 0 || i >= rows[k].cells.length) fault = 3;
        return fault == 0 ? rows[k].cells[i] : LOST;
    }

    int copy(int k, int i, int other, int j, int n) {
        fault = 0;
        if (k < 0 || k > 3 || other < 0 || other > 3) return UNKNOWN;
        if (rows[k] == null || rows[other] == null) return broken(1);
        if (rows[k].lane != rows[other].lane) return broken(2);
        int[] were = rows[k].cells.clone();
        if (i < 0 || j < 0 || n < 0 || (long) i + n > were.length
                || (long) j + n > rows[other].cells.length) return broken(3);
        for (int m = 0; m < n; m++) rows[other].cells[j + m] = were[i + m];
        return n;
    }

    private void trace(String bodies) {
        for (char body : bodies.toCharArray()) trace = trace * 31 + (body - '0');
    }

    int tell(int g) {
        if (noGuest(g)) return UNKNOWN;
        int mouth = guests.get(g).mouth;
        switch (guests.get(g).kind) {
            case 'g': trace("1"); return mouth;
            case 'a': trace("21"); return mouth + 100;
            default: trace("3211"); return mouth + 100 + mouth;
        }
    }

    int toast(int g) {
        if (noGuest(g)) return UNKNOWN;
        boolean child = guests.get(g).kind == 'c';
        trace(child ? "5" : "4");
        return child ? 20 : g;
    }

    int as(int g, int kind) {
        fault = 0;
        if (noGuest(g)) return UNKNOWN;
        if (kind < 0 || kind > 2) return OUTSIDE;
        char k = guests.get(g).kind;
        boolean is = kind == 0 || k == 'c' || kind == 1 && k == 'a';
        return is ? 1 : broken(2);
    }

    int trace() { return trace; }

    int fault() { return fault; }

    int many(int what) {
        if (what < 0 || what > 5) return OUTSIDE;
        return new int[] {guests.size(), dishes.size(), soup, salt, pepper, readings.size()}[what];
    }
}
