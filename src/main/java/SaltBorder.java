import java.util.Arrays;

/**
 * Saltcellar at the border: two countries meet in a dining room, and the border goes by where the
 * salt and the pepper stand. The document's words (TABLE, REQUEST, READING ..) are used as they
 * stand there.
 */
public final class SaltBorder {
    public static final int UNKNOWN = -1, OUTSIDE = -2, STATE = -3, FULL = -4, NONE = -9;
    public static final long LOST = Long.MIN_VALUE;

    private static final int NULL = 1, CAST = 2, INDEX = 3, SIZE = 4;
    private static final int GUEST = 0, AUNT = 1, CHILD = 2, KINDS = 3;
    private static final int COUNTRIES = 2, LANES = 3, SHEETS = 4, MOST_CELLS = 60;
    private static final int FEWEST_GUESTS = 3, MOST_GUESTS = 8, MOST_DISHES = 6, MOST_READINGS = 8;
    private static final int MOUTHS = 10, ARMS = 4, SOUPS = 4, WORTHS = 10, LONGEST_READING = 19;
    private static final int REQUESTS = 4, SALT_REQUESTS = 2, LAST_TOLD = 15;
    private static final int LONGEST_DINNER = 40, LONGEST_GAME = 4, LONGEST_HOME = 20, LONGEST_ODDS = 8;
    private static final int FIRST_DISH_ASKED = 10, EVEN_LEAD = 100;

    private final Sheet[] sheets = new Sheet[SHEETS];
    private final TextReader reader = new TextReader();
    private final Dinner served = new Dinner();
    private final Planner planner = new Planner();
    private final SaltWalk walk = new SaltWalk();
    private Table now = new Table();
    // A TEXT is laid here first, so that one with a FIRST FAULT changes nothing.
    private Table spare = new Table();
    private int traced;
    private int lastFault;

    public SaltBorder() {
        for (int k = 0; k < SHEETS; k++) {
            sheets[k] = new Sheet();
        }
    }

    // ---- 1 the table

    public int table(int sheet, int lane, int i, int n) {
        lastFault = 0;
        if (!isSheet(sheet)) {
            return UNKNOWN;
        }
        if (!isBelow(lane, LANES)) {
            return OUTSIDE;
        }
        int found = sheets[sheet].faultOfCells(lane, i, n);
        if (found != 0) {
            return broken(found);
        }
        reader.open(sheets[sheet].cells, i, n);
        if (!spare.lay(reader)) {
            return -100 - reader.at;
        }
        Table laid = spare;
        spare = now;
        now = laid;
        return now.guests;
    }

    public int ofGuest(int g, int what) {
        if (!isBelow(g, now.guests)) {
            return UNKNOWN;
        }
        switch (what) {
            case 0:
                return now.kinds[g];
            case 1:
                return now.mouths[g];
            case 2:
                return now.arms[g];
            case 3:
                return now.minutesOf(g);
            default:
                return OUTSIDE;
        }
    }

    public int ofDish(int d, int what) {
        if (!isBelow(d, now.dishes)) {
            return UNKNOWN;
        }
        switch (what) {
            case 0:
                return now.dishSeats[d];
            case 1:
                return now.worths[d];
            case 2:
                return now.ownerOfDish(d, now.border);
            default:
                return OUTSIDE;
        }
    }

    public int whose(int seat) {
        if (!isBelow(seat, now.guests)) {
            return UNKNOWN;
        }
        return now.ownerOf(seat, now.border);
    }

    public int land(int c) {
        if (!isBelow(c, COUNTRIES)) {
            return UNKNOWN;
        }
        if (!now.isLaid()) {
            return STATE;
        }
        return now.landOf(c, now.border);
    }

    public int chew(int g, int v) {
        if (!isBelow(g, now.guests)) {
            return UNKNOWN;
        }
        if (!isBelow(v, MOUTHS)) {
            return OUTSIDE;
        }
        int was = now.mouths[g];
        now.mouths[g] = v;
        return was;
    }

    public int cook(int v) {
        if (!isBelow(v, SOUPS)) {
            return OUTSIDE;
        }
        if (!now.isLaid()) {
            return STATE;
        }
        int was = now.soup;
        now.soup = v;
        return was;
    }

    public int rate(int d, int v) {
        if (!isBelow(d, now.dishes)) {
            return UNKNOWN;
        }
        if (!isBelow(v, WORTHS)) {
            return OUTSIDE;
        }
        int was = now.worths[d];
        now.worths[d] = v;
        return was;
    }

    public int carry(int d, int seat) {
        if (!isBelow(d, now.dishes) || !isBelow(seat, now.guests)) {
            return UNKNOWN;
        }
        int was = now.dishSeats[d];
        now.dishSeats[d] = seat;
        return was;
    }

    // ---- 2 requests

    public int pass(int r) {
        if (!isBelow(r, REQUESTS)) {
            return OUTSIDE;
        }
        if (!now.isLaid()) {
            return STATE;
        }
        int then = now.borderBehind(now.border, r);
        if (then == NONE) {
            return STATE;
        }
        int minutes = now.minutesOf(standsAt(now.border, r));
        now.border = then;
        return minutes;
    }

    public int dinner(int sheet, int lane, int i, int n, int what) {
        lastFault = 0;
        if (!isSheet(sheet)) {
            return UNKNOWN;
        }
        if (!isBelow(lane, LANES) || !isBelow(n, LONGEST_DINNER + 1) || !isAskedOfDinner(what)) {
            return OUTSIDE;
        }
        Sheet row = sheets[sheet];
        int found = row.faultOfCells(lane, i, n);
        if (found != 0) {
            return broken(found);
        }
        if (!now.isLaid()) {
            return STATE;
        }
        if (!row.areRequests(i, n)) {
            return OUTSIDE;
        }
        served.serve(now, row.cells, i, n);
        return answerOfDinner(what);
    }

    private static boolean isAskedOfDinner(int what) {
        return isBelow(what, 6) || what >= FIRST_DISH_ASKED && what < FIRST_DISH_ASKED + MOST_DISHES;
    }

    private int answerOfDinner(int what) {
        if (what == 1) {
            return served.firstWrong;
        }
        if (served.firstWrong != NONE) {
            return -100 - served.firstWrong;
        }
        switch (what) {
            case 0:
                return served.minutes;
            case 2:
                return now.landOf(0, served.border);
            case 3:
                return now.landOf(1, served.border);
            case 4:
                return saltOf(served.border);
            case 5:
                return pepperOf(served.border);
            default:
                int d = what - FIRST_DISH_ASKED;
                return isBelow(d, now.dishes) ? now.ownerOfDish(d, served.border) : NONE;
        }
    }

    // ---- 3 how to ask

    public int ask(int d, int c, int k) {
        if (!isBelow(d, now.dishes) || !isBelow(c, COUNTRIES)) {
            return UNKNOWN;
        }
        if (k < -2 || k > LAST_TOLD) {
            return OUTSIDE;
        }
        planner.planForDish(now, d, c);
        if (k == -2) {
            return planner.minutes(now);
        }
        return k == -1 ? planner.requests(now) : planner.requestAt(now, k);
    }

    public int treaty(int k) {
        if (k < -1 || k > LAST_TOLD) {
            return OUTSIDE;
        }
        if (!now.isLaid()) {
            return STATE;
        }
        planner.planForTreaty(now);
        return k == -1 ? planner.requests(now) : planner.requestAt(now, k);
    }

    public int game(int c, int n, int what) {
        if (!isBelow(c, COUNTRIES)) {
            return UNKNOWN;
        }
        if (n < 1 || n > LONGEST_GAME || what < 0 || what > 1) {
            return OUTSIDE;
        }
        if (!now.isLaid()) {
            return STATE;
        }
        if (what == 0) {
            return EVEN_LEAD + now.bestMargin(now.border, c, n);
        }
        return now.bestRequest(c, n);
    }

    public int spilt(int set) {
        if (!now.isLaid()) {
            return STATE;
        }
        if (!isBelow(set, 1 << now.guests)) {
            return OUTSIDE;
        }
        return now.fewestWhoWet(set);
    }

    public long home(int n) {
        if (!isBelow(n, LONGEST_HOME + 1) || !now.isLaid()) {
            return LOST;
        }
        walk.go(now, n, false);
        return walk.ways[saltOf(now.border)];
    }

    // ---- 4 how long it took

    public int reading(int g, int v) {
        if (!isBelow(g, now.guests)) {
            return UNKNOWN;
        }
        if (!isBelow(v, LONGEST_READING + 1)) {
            return OUTSIDE;
        }
        if (now.readings >= MOST_READINGS) {
            return FULL;
        }
        now.readGuests[now.readings] = g;
        now.readMinutes[now.readings] = v;
        now.readings++;
        return now.readings - 1;
    }

    public int back(int k) {
        if (!isBelow(k, now.readings + 1)) {
            return OUTSIDE;
        }
        now.readings -= k;
        return now.readings;
    }

    public int mouths(int g) {
        if (!isBelow(g, now.guests)) {
            return UNKNOWN;
        }
        int set = 0;
        for (int v = 0; v < MOUTHS; v++) {
            if (now.areReadingsSo(g, now.kinds[g], v, now.soup)) {
                set |= 1 << v;
            }
        }
        return set;
    }

    public int kinds(int g) {
        if (!isBelow(g, now.guests)) {
            return UNKNOWN;
        }
        int set = 0;
        for (int kind = 0; kind < KINDS; kind++) {
            if (now.areReadingsSo(g, kind, now.mouths[g], now.soup)) {
                set |= 1 << kind;
            }
        }
        return set;
    }

    public int soups() {
        if (!now.isLaid()) {
            return STATE;
        }
        int set = 0;
        for (int v = 0; v < SOUPS; v++) {
            // The first GUEST stays as they are: SOUP alone is another.
            if (now.areReadingsSo(0, now.kinds[0], now.mouths[0], v)) {
                set |= 1 << v;
            }
        }
        return set;
    }

    public long odds(int d, int c, int n, int which) {
        if (!isBelow(d, now.dishes) || !isBelow(c, COUNTRIES)) {
            return LOST;
        }
        if (!isBelow(n, LONGEST_ODDS + 1) || which < 0 || which > 1) {
            return LOST;
        }
        walk.go(now, n, true);
        long upper = walk.waysToOwn(now, d, c);
        long lower = 1L << n;
        // The lower number is a power of two, so only halving can make the terms less.
        for (int halved = 0; halved < n && upper % 2 == 0; halved++) {
            upper /= 2;
            lower /= 2;
        }
        return which == 0 ? upper : lower;
    }

    // ---- 5 sheets, parts

    public int sheet(int k, int lane, int n) {
        lastFault = 0;
        if (!isSheet(k)) {
            return UNKNOWN;
        }
        if (!isBelow(lane, LANES) || n > MOST_CELLS) {
            return OUTSIDE;
        }
        if (n < 0) {
            return broken(SIZE);
        }
        sheets[k].renew(lane, n);
        return 1;
    }

    public int lose(int k) {
        if (!isSheet(k)) {
            return UNKNOWN;
        }
        int had = sheets[k].isThere ? 1 : 0;
        sheets[k].isThere = false;
        return had;
    }

    public int put(int k, int i, int v) {
        lastFault = 0;
        if (!isSheet(k)) {
            return UNKNOWN;
        }
        Sheet row = sheets[k];
        if (!row.isThere) {
            return broken(NULL);
        }
        if (!row.has(i, 1)) {
            return broken(INDEX);
        }
        row.cells[i] = row.cut(v);
        return 1;
    }

    public long cell(int k, int i, int lane) {
        lastFault = 0;
        if (!isSheet(k) || !isBelow(lane, LANES)) {
            return LOST;
        }
        lastFault = sheets[k].faultOfCells(lane, i, 1);
        return lastFault == 0 ? sheets[k].cells[i] : LOST;
    }

    public int copy(int k, int i, int other, int j, int n) {
        lastFault = 0;
        if (!isSheet(k) || !isSheet(other)) {
            return UNKNOWN;
        }
        Sheet from = sheets[k];
        Sheet to = sheets[other];
        if (!from.isThere || !to.isThere) {
            return broken(NULL);
        }
        if (from.lane != to.lane) {
            return broken(CAST);
        }
        if (!from.has(i, n) || !to.has(j, n)) {
            return broken(INDEX);
        }
        System.arraycopy(from.cells, i, to.cells, j, n);
        return n;
    }

    public int tell(int g) {
        if (!isBelow(g, now.guests)) {
            return UNKNOWN;
        }
        switch (now.kinds[g]) {
            case CHILD:
                return childTells(g);
            case AUNT:
                return auntTells(g);
            default:
                return guestTells(g);
        }
    }

    private int guestTells(int g) {
        leave(1);
        return now.mouths[g];
    }

    private int auntTells(int g) {
        leave(2);
        return guestTells(g) + 100;
    }

    private int childTells(int g) {
        leave(3);
        return auntTells(g) + guestTells(g);
    }

    public int toast(int g) {
        if (!isBelow(g, now.guests)) {
            return UNKNOWN;
        }
        if (now.kinds[g] == CHILD) {
            leave(5);
            return 20;
        }
        leave(4);
        return g;
    }

    private void leave(int number) {
        traced = 31 * traced + number;
    }

    public int as(int g, int kind) {
        lastFault = 0;
        if (!isBelow(g, now.guests)) {
            return UNKNOWN;
        }
        if (!isBelow(kind, KINDS)) {
            return OUTSIDE;
        }
        // Each kind is also all that are told ahead of it.
        return now.kinds[g] >= kind ? 1 : broken(CAST);
    }

    public int trace() {
        return traced;
    }

    public int fault() {
        return lastFault;
    }

    public int many(int what) {
        switch (what) {
            case 0:
                return now.guests;
            case 1:
                return now.dishes;
            case 2:
                return now.soup;
            case 3:
                return saltOf(now.border);
            case 4:
                return pepperOf(now.border);
            case 5:
                return now.readings;
            default:
                return OUTSIDE;
        }
    }

    // ---- what all parts use

    private int broken(int found) {
        lastFault = found;
        return -10 - found;
    }

    private static boolean isSheet(int k) {
        return isBelow(k, SHEETS);
    }

    private static boolean isBelow(int v, int limit) {
        return v >= 0 && v < limit;
    }

    // A border is one number, so that plans can keep one row with a place for each border.

    private static final int BORDERS = MOST_GUESTS * MOST_GUESTS;

    private static int borderOf(int salt, int pepper) {
        return salt * MOST_GUESTS + pepper;
    }

    private static int saltOf(int border) {
        return border / MOST_GUESTS;
    }

    private static int pepperOf(int border) {
        return border % MOST_GUESTS;
    }

    /** The SEAT of what a REQUEST is for. */
    private static int standsAt(int border, int r) {
        return r < SALT_REQUESTS ? saltOf(border) : pepperOf(border);
    }

    /** A SHEET: its cells are made once, however often it gets a new row. */
    private static final class Sheet {
        final int[] cells = new int[MOST_CELLS];
        boolean isThere;
        int lane;
        int length;

        void renew(int newLane, int newLength) {
            isThere = true;
            lane = newLane;
            length = newLength;
            Arrays.fill(cells, 0);
        }

        boolean has(int i, int n) {
            return i >= 0 && i <= length && n >= 0 && n <= length - i;
        }

        int faultOfCells(int asLane, int i, int n) {
            if (!isThere) {
                return NULL;
            }
            if (lane != asLane) {
                return CAST;
            }
            if (n < 0) {
                return SIZE;
            }
            return has(i, n) ? 0 : INDEX;
        }

        int cut(int v) {
            switch (lane) {
                case 0:
                    return (byte) v;
                case 1:
                    return (short) v;
                default:
                    return v;
            }
        }

        boolean areRequests(int from, int n) {
            for (int i = from; i < from + n; i++) {
                if (!isBelow(cells[i], REQUESTS)) {
                    return false;
                }
            }
            return true;
        }
    }

    /** Goes along a TEXT and stays where it can't go on: that place is the FIRST FAULT. */
    private static final class TextReader {
        private int[] codes = new int[0];
        private int from;
        private int count;
        private int at;

        void open(int[] cells, int i, int n) {
            codes = cells;
            from = i;
            count = n;
            at = 0;
        }

        boolean isAtEnd() {
            return at >= count;
        }

        boolean isAt(int code) {
            return at < count && codes[from + at] == code;
        }

        boolean take(int code) {
            if (!isAt(code)) {
                return false;
            }
            at++;
            return true;
        }

        int takeDigit(int limit) {
            return takeDigitBut(limit, NONE);
        }

        int takeDigitBut(int limit, int notThis) {
            if (isAtEnd()) {
                return NONE;
            }
            int v = codes[from + at] - '0';
            if (!isBelow(v, limit) || v == notThis) {
                return NONE;
            }
            at++;
            return v;
        }

        int takeKind() {
            if (take('g')) {
                return GUEST;
            }
            if (take('a')) {
                return AUNT;
            }
            return take('c') ? CHILD : NONE;
        }
    }

    /** All that a TEXT tells, and the READINGS, which end with it. */
    private static final class Table {
        // Far below what all LAND can make, so that a REQUEST that is not to be is never the best.
        private static final int NO_MARGIN = -1000;
        final int[] kinds = new int[MOST_GUESTS];
        final int[] mouths = new int[MOST_GUESTS];
        final int[] arms = new int[MOST_GUESTS];
        final int[] wet = new int[MOST_GUESTS];
        final int[] dishSeats = new int[MOST_DISHES];
        final int[] worths = new int[MOST_DISHES];
        final int[] readGuests = new int[MOST_READINGS];
        final int[] readMinutes = new int[MOST_READINGS];
        int guests;
        int dishes;
        int soup;
        int border;
        int readings;

        boolean isLaid() {
            return guests > 0;
        }

        boolean lay(TextReader text) {
            readings = 0;
            return text.take('t') && laySoup(text) && layGuests(text) && layBorder(text)
                    && layDishes(text) && text.isAtEnd();
        }

        private boolean laySoup(TextReader text) {
            soup = text.takeDigit(SOUPS);
            return soup != NONE;
        }

        private boolean layGuests(TextReader text) {
            int g = 0;
            while (g < MOST_GUESTS && !(g >= FEWEST_GUESTS && text.isAt('/'))) {
                if (!layGuest(text, g)) {
                    return false;
                }
                g++;
            }
            guests = g;
            return true;
        }

        private boolean layGuest(TextReader text, int g) {
            if (!text.take(',')) {
                return false;
            }
            kinds[g] = text.takeKind();
            if (kinds[g] == NONE) {
                return false;
            }
            mouths[g] = text.takeDigit(MOUTHS);
            if (mouths[g] == NONE) {
                return false;
            }
            arms[g] = text.takeDigit(ARMS);
            return arms[g] != NONE;
        }

        private boolean layBorder(TextReader text) {
            if (!text.take('/')) {
                return false;
            }
            int salt = text.takeDigit(guests);
            if (salt == NONE) {
                return false;
            }
            int pepper = text.takeDigitBut(guests, salt);
            if (pepper == NONE) {
                return false;
            }
            border = borderOf(salt, pepper);
            return true;
        }

        private boolean layDishes(TextReader text) {
            int d = 0;
            while (d < MOST_DISHES && !(d > 0 && text.isAtEnd())) {
                if (!layDish(text, d)) {
                    return false;
                }
                d++;
            }
            dishes = d;
            return true;
        }

        private boolean layDish(TextReader text, int d) {
            if (!text.take(';')) {
                return false;
            }
            dishSeats[d] = text.takeDigit(guests);
            if (dishSeats[d] == NONE) {
                return false;
            }
            worths[d] = text.takeDigit(WORTHS);
            return worths[d] != NONE;
        }

        private int stepsBehind(int from, int to) {
            return to >= from ? to - from : to - from + guests;
        }

        int ownerOf(int seat, int atBorder) {
            int salt = saltOf(atBorder);
            int pepper = pepperOf(atBorder);
            if (seat == salt || seat == pepper) {
                return NONE;
            }
            return stepsBehind(salt, seat) < stepsBehind(salt, pepper) ? 0 : 1;
        }

        int ownerOfDish(int d, int atBorder) {
            return ownerOf(dishSeats[d], atBorder);
        }

        int landOf(int c, int atBorder) {
            int sum = 0;
            for (int d = 0; d < dishes; d++) {
                if (ownerOf(dishSeats[d], atBorder) == c) {
                    sum += worths[d];
                }
            }
            return sum;
        }

        private static int minutesAs(int kind, int mouth, int withSoup) {
            int guestMinutes = mouth + withSoup;
            switch (kind) {
                case CHILD:
                    return guestMinutes / 2;
                case AUNT:
                    return Math.max(guestMinutes - 1, 0);
                default:
                    return guestMinutes;
            }
        }

        int minutesOf(int g) {
            return minutesAs(kinds[g], mouths[g], soup);
        }

        private int neighbour(int seat, int r) {
            if (r % 2 == 0) {
                return seat == 0 ? guests - 1 : seat - 1;
            }
            return seat == guests - 1 ? 0 : seat + 1;
        }

        /** NONE, if the REQUEST is not to be. */
        int borderBehind(int atBorder, int r) {
            int salt = saltOf(atBorder);
            int pepper = pepperOf(atBorder);
            if (r < SALT_REQUESTS) {
                salt = neighbour(salt, r);
            } else {
                pepper = neighbour(pepper, r);
            }
            return salt == pepper ? NONE : borderOf(salt, pepper);
        }

        boolean isBorder(int b) {
            int salt = saltOf(b);
            int pepper = pepperOf(b);
            return salt < guests && pepper < guests && salt != pepper;
        }

        /** By how much a COUNTRY whose turn it is has more LAND than the other at the end. */
        private int bestMargin(int atBorder, int c, int turns) {
            if (turns <= 0) {
                return landOf(c, atBorder) - landOf(1 - c, atBorder);
            }
            int best = NO_MARGIN;
            for (int r = 0; r < REQUESTS; r++) {
                best = Math.max(best, marginBehind(atBorder, c, turns, r));
            }
            return best;
        }

        private int marginBehind(int atBorder, int c, int turns, int r) {
            int then = borderBehind(atBorder, r);
            return then == NONE ? NO_MARGIN : -bestMargin(then, 1 - c, turns - 1);
        }

        int bestRequest(int c, int turns) {
            int best = 0;
            int most = marginBehind(border, c, turns, 0);
            for (int r = 1; r < REQUESTS; r++) {
                int margin = marginBehind(border, c, turns, r);
                if (margin > most) {
                    best = r;
                    most = margin;
                }
            }
            return best;
        }

        private int wetBy(int g) {
            int set = 0;
            for (int seat = 0; seat < guests; seat++) {
                if (Math.min(stepsBehind(g, seat), stepsBehind(seat, g)) <= arms[g]) {
                    set |= 1 << seat;
                }
            }
            return set;
        }

        private int wetByAll(int spillers) {
            int set = 0;
            for (int g = 0; g < guests; g++) {
                if ((spillers >> g & 1) == 1) {
                    set |= wet[g];
                }
            }
            return set;
        }

        int fewestWhoWet(int set) {
            for (int g = 0; g < guests; g++) {
                wet[g] = wetBy(g);
            }
            int best = NONE;
            int fewest = MOST_GUESTS + 1;
            for (int spillers = 0; spillers < 1 << guests; spillers++) {
                int many = Integer.bitCount(spillers);
                if (many < fewest && wetByAll(spillers) == set) {
                    best = spillers;
                    fewest = many;
                }
            }
            return best;
        }

        /** Whether all READINGS are so if GUEST g is of that kind and MOUTH, by that SOUP. */
        boolean areReadingsSo(int g, int kind, int mouth, int withSoup) {
            for (int k = 0; k < readings; k++) {
                int who = readGuests[k];
                int took = who == g ? minutesAs(kind, mouth, withSoup)
                        : minutesAs(kinds[who], mouths[who], withSoup);
                if (took != readMinutes[k]) {
                    return false;
                }
            }
            return true;
        }
    }

    /** A DINNER told: what it comes to, without the TABLE being changed. */
    private static final class Dinner {
        int border;
        int minutes;
        int firstWrong;

        void serve(Table table, int[] cells, int from, int n) {
            border = table.border;
            minutes = 0;
            firstWrong = NONE;
            for (int k = 0; k < n && firstWrong == NONE; k++) {
                int then = table.borderBehind(border, cells[from + k]);
                if (then == NONE) {
                    firstWrong = k;
                } else {
                    minutes += table.minutesOf(standsAt(border, cells[from + k]));
                    border = then;
                }
            }
        }
    }

    /**
     * The best rows of REQUESTS to a goal. It knows for every border how much is left to go, so
     * that the first of several best rows is found by taking the least REQUEST that loses nothing.
     */
    private static final class Planner {
        private static final int FAR = 1000000000;
        // Above any row's REQUESTS (it comes to no border twice), so that MINUTES come first.
        private static final int A_MINUTE = 1000;
        private final int[] left = new int[BORDERS];
        private final int[] weights = new int[MOST_GUESTS];

        void planForDish(Table table, int d, int c) {
            weigh(table, A_MINUTE);
            for (int b = 0; b < BORDERS; b++) {
                left[b] = table.isBorder(b) && table.ownerOfDish(d, b) == c ? 0 : FAR;
            }
            spread(table);
        }

        void planForTreaty(Table table) {
            weigh(table, 0);
            for (int b = 0; b < BORDERS; b++) {
                left[b] = table.isBorder(b) && table.landOf(0, b) == table.landOf(1, b) ? 0 : FAR;
            }
            spread(table);
        }

        private void weigh(Table table, int minute) {
            for (int g = 0; g < table.guests; g++) {
                weights[g] = minute * table.minutesOf(g) + 1;
            }
        }

        private void spread(Table table) {
            boolean isBetter = true;
            for (int sweep = 0; sweep < BORDERS && isBetter; sweep++) {
                isBetter = sweepOnce(table);
            }
        }

        private boolean sweepOnce(Table table) {
            boolean isBetter = false;
            for (int b = 0; b < BORDERS; b++) {
                if (left[b] == 0 || !table.isBorder(b)) {
                    continue;
                }
                for (int r = 0; r < REQUESTS; r++) {
                    int leftBy = leftBy(table, b, r);
                    if (leftBy < left[b]) {
                        left[b] = leftBy;
                        isBetter = true;
                    }
                }
            }
            return isBetter;
        }

        private int leftBy(Table table, int b, int r) {
            int then = table.borderBehind(b, r);
            if (then == NONE || left[then] == FAR) {
                return FAR;
            }
            return left[then] + weights[standsAt(b, r)];
        }

        int minutes(Table table) {
            int whole = left[table.border];
            return whole == FAR ? NONE : whole / A_MINUTE;
        }

        int requests(Table table) {
            int whole = left[table.border];
            return whole == FAR ? NONE : whole % A_MINUTE;
        }

        int requestAt(Table table, int k) {
            if (k >= requests(table)) {
                return NONE;
            }
            int b = table.border;
            for (int step = 0; step < k && b != NONE; step++) {
                b = table.borderBehind(b, firstBest(table, b));
            }
            return b == NONE ? NONE : firstBest(table, b);
        }

        private int firstBest(Table table, int b) {
            int r = 0;
            while (r < REQUESTS - 1 && leftBy(table, b, r) != left[b]) {
                r++;
            }
            return r;
        }
    }

    /** In how many ways REQUESTS 0 and 1 bring SALT to each SEAT. */
    private static final class SaltWalk {
        final long[] ways = new long[MOST_GUESTS];
        private final long[] waysThen = new long[MOST_GUESTS];

        void go(Table table, int n, boolean staysIfNotToBe) {
            Arrays.fill(ways, 0L);
            ways[saltOf(table.border)] = 1;
            for (int k = 0; k < n; k++) {
                Arrays.fill(waysThen, 0L);
                for (int seat = 0; seat < table.guests; seat++) {
                    passFrom(table, seat, staysIfNotToBe);
                }
                System.arraycopy(waysThen, 0, ways, 0, MOST_GUESTS);
            }
        }

        private void passFrom(Table table, int seat, boolean staysIfNotToBe) {
            int border = borderOf(seat, pepperOf(table.border));
            for (int r = 0; r < SALT_REQUESTS; r++) {
                int then = table.borderBehind(border, r);
                if (then != NONE) {
                    waysThen[saltOf(then)] += ways[seat];
                } else if (staysIfNotToBe) {
                    waysThen[seat] += ways[seat];
                }
            }
        }

        long waysToOwn(Table table, int d, int c) {
            long sum = 0;
            for (int seat = 0; seat < table.guests; seat++) {
                int border = borderOf(seat, pepperOf(table.border));
                if (table.ownerOfDish(d, border) == c) {
                    sum += ways[seat];
                }
            }
            return sum;
        }
    }
}
