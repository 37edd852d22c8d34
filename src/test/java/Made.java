/** Objects that are made alike, and all that the face tells of one, so that two can be compared. */
final class Made {
    /** Its latest call that names FAULTS came to this one: a call that names none leaves it. */
    static final int LEFT_FAULT = 4;

    private static final int[] SHORTS = {7, -300, 2};
    /** Behind `laid` the fourth of these is not to be; the seventh and eighth are no REQUESTS. */
    private static final int[] INTS = {1, 3, 1, 1, 0, 2, 4, -1};

    private Made() { }

    /** Check.SIX with SALT on SEAT 1; SHEETS 0 bytes, 1 shorts, 2 ints, 3 nothing; 2 READINGS. */
    static SaltBorder laid() {
        SaltBorder x = bare();
        Check.due("table", x.table(0, 0, 0, Check.SIX.length()), 6);
        x.pass(1);
        x.reading(0, 5);
        x.reading(3, 3);
        x.tell(2);
        leaveFault(x);
        return x;
    }

    /** The same SHEETS, but no TABLE. */
    static SaltBorder bare() {
        SaltBorder x = new SaltBorder();
        Check.write(x, 0, 0, 0, Check.SIX);
        fill(x, 1, 1, SHORTS);
        fill(x, 2, 2, INTS);
        leaveFault(x);
        return x;
    }

    /** As many READINGS as there can be. */
    static SaltBorder full() {
        SaltBorder x = laid();
        for (int k = 2; k < 8; k++) {
            Check.due("reading", x.reading(0, 5), k);
        }
        return x;
    }

    /** SALT on SEAT 2 and PEPPER on SEAT 3: REQUESTS 1 and 2 are not to be. */
    static SaltBorder touching() {
        SaltBorder x = laid();
        x.pass(1);
        return x;
    }

    static void fill(SaltBorder x, int k, int lane, int... cells) {
        Check.due("sheet", x.sheet(k, lane, cells.length), 1);
        for (int i = 0; i < cells.length; i++) {
            Check.due("put", x.put(k, i, cells[i]), 1);
        }
    }

    private static void leaveFault(SaltBorder x) {
        Check.due("a length below 0", x.sheet(3, 0, -1), -10 - LEFT_FAULT);
    }

    /** All but fault(). It takes the READINGS back and loses the SHEETS, so it is asked for last. */
    static String told(SaltBorder x) {
        StringBuilder all = new StringBuilder();
        for (int what = 0; what < 6; what++) {
            all.append(x.many(what)).append(' ');
        }
        all.append("trace ").append(x.trace());
        tellTable(x, all);
        tellReadings(x, all);
        for (int k = 0; k < 4; k++) {
            tellSheet(x, k, all);
        }
        return all.toString();
    }

    private static void tellTable(SaltBorder x, StringBuilder all) {
        for (int g = 0; g < x.many(0); g++) {
            all.append(" guest");
            for (int what = 0; what < 4; what++) {
                all.append(' ').append(x.ofGuest(g, what));
            }
        }
        for (int d = 0; d < x.many(1); d++) {
            all.append(" dish");
            for (int what = 0; what < 3; what++) {
                all.append(' ').append(x.ofDish(d, what));
            }
        }
    }

    private static void tellReadings(SaltBorder x, StringBuilder all) {
        int left = x.many(5);
        for (int k = 0; k < 8 && left > 0; k++) {
            all.append(" reading ").append(x.soups());
            for (int g = 0; g < x.many(0); g++) {
                all.append(' ').append(x.mouths(g)).append(' ').append(x.kinds(g));
            }
            left = x.back(1);
        }
        all.append(" left ").append(left);
    }

    private static void tellSheet(SaltBorder x, int k, StringBuilder all) {
        int lane = 0;
        x.cell(k, 0, 0);
        while (lane < 2 && x.fault() == 2) {
            lane++;
            x.cell(k, 0, lane);
        }
        all.append(" sheet of ").append(lane);
        long cell = x.cell(k, 0, lane);
        for (int i = 1; cell != SaltBorder.LOST; i++) {
            all.append(' ').append(cell);
            cell = x.cell(k, i, lane);
        }
        all.append(" there ").append(x.lose(k));
    }
}
