/** Promises 13 to 17: ASK, TREATY, GAME, SPILT, HOME. */
final class AskTest {
    private static final long LOST = SaltBorder.LOST;

    public static void main(String[] args) {
        ask();
        askMinutesFirst();
        askFewestThenFirst();
        askRefused();
        treaty();
        treatyFirstAsRow();
        treatyRefused();
        game();
        gameRefused();
        spilt();
        spiltFewestThenLeast();
        home();
        Check.finish();
    }

    private static void asked(SaltBorder x, int d, int c, int minutes, String row) {
        Check.due("minutes", x.ask(d, c, -2), minutes);
        Check.due("requests", x.ask(d, c, -1), row.length());
        for (int k = 0; k <= 15; k++) {
            int want = k < row.length() ? row.charAt(k) - '0' : SaltBorder.NONE;
            Check.due("request " + k, x.ask(d, c, k), want);
        }
    }

    private static void ask() {
        SaltBorder x = Check.laid(Check.SIX);
        asked(x, 0, 0, 0, "");
        asked(x, 0, 1, 10, "11");
        asked(x, 1, 1, 8, "22");
        asked(x, 2, 0, 4, "33");
        asked(x, 4, 0, 5, "0");
        asked(x, 4, 1, 5, "1");
        Check.due("nothing is passed", x.many(3), 0);
        Check.due("nothing is passed", x.many(4), 3);
        SaltBorder three = Check.laid("t0,g10,g20,g30/02;15;20");
        asked(three, 0, 0, 0, "");
        asked(three, 0, 1, 6, "131");
        asked(three, 1, 0, 4, "13");
    }

    /** The way of more REQUESTS is taken where the short one has a full mouth on it. */
    private static void askMinutesFirst() {
        SaltBorder x = Check.laid("t0,g90,g00,g00,g00,g00,g00/03;25");
        asked(x, 0, 1, 0, "22");
        x.carry(0, 1);
        asked(x, 0, 1, 9, "11");
        x.chew(3, 9);
        x.chew(0, 0);
        asked(x, 0, 1, 0, "11");
        x.carry(0, 2);
        asked(x, 0, 1, 9, "22");
    }

    private static void askFewestThenFirst() {
        SaltBorder x = Check.laid("t0,g00,g00,g00,g00,g00,g00,g00,g00/04;25");
        asked(x, 0, 1, 0, "111");
        x.carry(0, 3);
        asked(x, 0, 1, 0, "22");
        x.carry(0, 0);
        asked(x, 0, 0, 0, "0");
        asked(x, 0, 1, 0, "1");
        x.carry(0, 4);
        asked(x, 0, 0, 0, "3");
        asked(x, 0, 1, 0, "2");
    }

    private static void askRefused() {
        SaltBorder x = Check.laid(Check.SIX);
        Check.due("dish", x.ask(5, 0, 99), SaltBorder.UNKNOWN);
        Check.due("dish", x.ask(-1, 0, 0), SaltBorder.UNKNOWN);
        Check.due("country", x.ask(0, 2, 99), SaltBorder.UNKNOWN);
        Check.due("country", x.ask(0, -1, 0), SaltBorder.UNKNOWN);
        Check.due("k", x.ask(0, 0, -3), SaltBorder.OUTSIDE);
        Check.due("k", x.ask(0, 0, 16), SaltBorder.OUTSIDE);
        Check.due("no table", new SaltBorder().ask(0, 0, -9), SaltBorder.UNKNOWN);
    }

    private static void agreed(SaltBorder x, String row) {
        Check.due("requests", x.treaty(-1), row.length());
        for (int k = 0; k <= 15; k++) {
            int want = k < row.length() ? row.charAt(k) - '0' : SaltBorder.NONE;
            Check.due("request " + k, x.treaty(k), want);
        }
    }

    private static void treaty() {
        agreed(Check.laid("t0,g00,g00,g00,g00/02;14;34"), "");
        agreed(Check.laid("t0,g00,g00,g00,g00/02;04"), "");
        agreed(Check.laid("t0,g00,g00,g00,g00/02;14"), "1");
        SaltBorder none = Check.laid("t0,g00,g00,g00/02;19;01;23");
        for (int k = -1; k <= 15; k++) {
            Check.due("there is none", none.treaty(k), SaltBorder.NONE);
        }
    }

    private static void treatyFirstAsRow() {
        SaltBorder x = Check.laid("t3,g90,g00,g00,g00,g00,g00/03;19");
        agreed(x, "1");
        x.carry(0, 2);
        agreed(x, "2");
        x.carry(0, 5);
        agreed(x, "0");
        x.carry(0, 4);
        agreed(x, "3");
        SaltBorder wide = Check.laid("t0,g00,g00,g00,g00,g00,g00,g00/04;29");
        agreed(wide, "11");
        wide.pass(1);
        agreed(wide, "1");
    }

    private static void treatyRefused() {
        SaltBorder x = Check.laid(Check.SIX);
        Check.due("k", x.treaty(-2), SaltBorder.OUTSIDE);
        Check.due("k", x.treaty(16), SaltBorder.OUTSIDE);
        Check.due("no table", new SaltBorder().treaty(16), SaltBorder.OUTSIDE);
        Check.due("no table", new SaltBorder().treaty(0), SaltBorder.STATE);
    }

    /** On three SEATS two REQUESTS are to be each time, and by each the third SEAT changes hands. */
    private static void game() {
        SaltBorder x = Check.laid("t0,g00,g00,g00/02;15;21;03");
        Check.due("first to ask", x.game(1, 1, 1), 1);
        Check.due("lead", x.game(1, 1, 0), 103);
        Check.due("lead of 0", x.game(0, 1, 0), 99);
        Check.due("request of 0", x.game(0, 1, 1), 2);
        Check.due("lead by two", x.game(0, 2, 0), 103);
        Check.due("request of two", x.game(0, 2, 1), 2);
        SaltBorder even = Check.laid("t0,g00,g00,g00,g00,g00/02;00");
        for (int n = 1; n <= 4; n++) {
            Check.due("even", even.game(0, n, 0), 100);
            Check.due("the least request", even.game(0, n, 1), 0);
            Check.due("the least request", even.game(1, n, 1), 0);
        }
        even.pass(1);
        Check.due("the least that is to be", even.game(1, 1, 1), 0);
        even.pass(0);
        even.pass(2);
        Check.due("salt is ahead of pepper", even.game(1, 1, 1), 0);
        SaltBorder all = Check.laid("t0,g00,g00,g00,g00/02;19;19;19;19;19;19");
        Check.due("most", all.game(0, 1, 0), 154);
        Check.due("most", all.game(0, 1, 1), 0);
        Check.due("the other one's", all.game(1, 1, 0), 100);
        Check.due("the other one's", all.game(1, 1, 1), 1);
    }

    private static void gameRefused() {
        SaltBorder x = Check.laid(Check.SIX);
        Check.due("country", x.game(2, 0, 9), SaltBorder.UNKNOWN);
        Check.due("country", x.game(-1, 1, 0), SaltBorder.UNKNOWN);
        Check.due("n", x.game(0, 0, 0), SaltBorder.OUTSIDE);
        Check.due("n", x.game(0, 5, 0), SaltBorder.OUTSIDE);
        Check.due("what", x.game(0, 1, 2), SaltBorder.OUTSIDE);
        Check.due("what", x.game(0, 1, -1), SaltBorder.OUTSIDE);
        Check.due("no table", new SaltBorder().game(0, 0, 0), SaltBorder.OUTSIDE);
        Check.due("no table", new SaltBorder().game(0, 4, 1), SaltBorder.STATE);
        Check.due("nothing is passed", x.game(0, 4, 0) > 0 ? x.many(3) : -1, 0);
    }

    private static void spilt() {
        SaltBorder x = Check.laid(Check.SIX);
        Check.due("dry", x.spilt(0), 0);
        Check.due("arm 1, round the table", x.spilt(0b100011), 0b1);
        Check.due("arm 0", x.spilt(0b10), 0b10);
        Check.due("arm 2", x.spilt(0b11111), 0b100);
        Check.due("two of arm 0", x.spilt(0b1010), 0b1010);
        Check.due("arm 3 wets all", x.spilt(0b111111), 0b10000);
        Check.due("nobody", x.spilt(0b1), SaltBorder.NONE);
        Check.due("a seat too many", x.spilt(0b1000000), SaltBorder.OUTSIDE);
        Check.due("below 0", x.spilt(-1), SaltBorder.OUTSIDE);
        Check.due("no table", new SaltBorder().spilt(-1), SaltBorder.STATE);
        Check.due("no table", new SaltBorder().spilt(0), SaltBorder.STATE);
    }

    private static void spiltFewestThenLeast() {
        SaltBorder x = Check.laid("t0,g00,g00,g01,g00,g01,g00,g00,g03/01;00");
        Check.due("one for three", x.spilt(0b1110), 0b100);
        Check.due("two for five", x.spilt(0b111110), 0b10100);
        Check.due("all but 3", x.spilt(0b11110111), 0b10000000);
        Check.due("all", x.spilt(0b11111111), 0b10000100);
        SaltBorder same = Check.laid("t0,g03,g03,g03/01;00");
        Check.due("the least of several", same.spilt(0b111), 0b1);
        SaltBorder eight = Check.laid("t0,g00,g00,g00,g00,g00,g00,g00,g00/01;00");
        Check.due("all of eight", eight.spilt(255), 255);
        Check.due("beyond eight", eight.spilt(256), SaltBorder.OUTSIDE);
    }

    private static void home() {
        SaltBorder x = Check.laid(Check.SIX);
        long[] want = {1, 0, 2, 0, 6, 0, 18, 0, 54};
        for (int n = 0; n < want.length; n++) {
            Check.due("home " + n, x.home(n), want[n]);
        }
        Check.due("home 20", x.home(20), 39366);
        Check.due("home 21", x.home(21), LOST);
        Check.due("home -1", x.home(-1), LOST);
        SaltBorder three = Check.laid("t0,g00,g00,g00/02;15");
        Check.due("to and fro", three.home(20), 1);
        SaltBorder eight = Check.laid("t0,g00,g00,g00,g00,g00,g00,g00,g00/40;00");
        Check.due("in the midst", eight.home(6), 20);
        Check.due("pepper is in the way", eight.home(8), 68);
        Check.due("no table", new SaltBorder().home(0), LOST);
    }
}
