/** Promises 11 and 12: what is passed, and DINNERS that are told. */
final class RequestsTest {
    public static void main(String[] args) {
        passed();
        notToBe();
        threeSeats();
        dinnerAnswers();
        dinnerWrong();
        dinnerChangesNothing();
        dinnerRefused();
        dinnerWithoutTable();
        longestDinner();
        Check.finish();
    }

    private static void passed() {
        SaltBorder x = Check.laid(Check.SIX);
        Check.due("salt ahead, round the table", x.pass(0), 5);
        Check.due("salt", x.many(3), 5);
        Check.due("salt ahead", x.pass(0), 7);
        Check.due("salt", x.many(3), 4);
        Check.due("salt behind", x.pass(1), 1);
        Check.due("salt behind", x.pass(1), 7);
        Check.due("salt round the table", x.many(3), 0);
        Check.due("pepper ahead", x.pass(2), 3);
        Check.due("pepper", x.many(4), 2);
        Check.due("pepper behind", x.pass(3), 5);
        Check.due("pepper", x.many(4), 3);
        Check.due("pepper behind", x.pass(3), 3);
        Check.due("pepper behind", x.pass(3), 1);
        Check.due("pepper at the last seat", x.many(4), 5);
        Check.due("salt stands there", x.pass(3), SaltBorder.STATE);
        Check.due("pepper stands there", x.pass(0), SaltBorder.STATE);
        Check.due("request 4", x.pass(4), SaltBorder.OUTSIDE);
        Check.due("request -1", x.pass(-1), SaltBorder.OUTSIDE);
        Check.due("salt", x.many(3), 0);
        Check.due("pepper", x.many(4), 5);
        SaltBorder none = new SaltBorder();
        Check.due("no table", none.pass(0), SaltBorder.STATE);
        Check.due("no table", none.pass(4), SaltBorder.OUTSIDE);
    }

    private static void notToBe() {
        SaltBorder x = Check.laid("t0,g10,g20,g30,g40/12;00");
        Check.due("salt to pepper", x.pass(1), SaltBorder.STATE);
        Check.due("pepper to salt", x.pass(2), SaltBorder.STATE);
        Check.due("salt ahead", x.pass(0), 2);
        Check.due("pepper ahead", x.pass(2), 3);
        Check.due("pepper to salt", x.pass(2), SaltBorder.STATE);
    }

    private static void threeSeats() {
        SaltBorder x = Check.laid("t0,g10,g20,g30/02;15");
        Check.due("ahead of 0 is 2", x.pass(0), SaltBorder.STATE);
        Check.due("behind 2 is 0", x.pass(3), SaltBorder.STATE);
        Check.due("whose", x.whose(1), 0);
        Check.due("pepper ahead", x.pass(2), 3);
        Check.due("whose", x.whose(2), 1);
    }

    private static void dinnerAnswers() {
        SaltBorder x = Check.laid(Check.SIX);
        Check.requests(x, "13");
        int[] want = {8, -9, 7, 5, 1, 4};
        for (int what = 0; what <= 5; what++) {
            Check.due("what " + what, x.dinner(1, 2, 0, 2, what), want[what]);
        }
        int[] owners = {-9, 0, -9, 1, 1, -9};
        for (int d = 0; d < 6; d++) {
            Check.due("dish " + d, x.dinner(1, 2, 0, 2, 10 + d), owners[d]);
        }
        x.carry(0, 3);
        Check.due("what 2", x.dinner(1, 2, 0, 2, 2), 11);
        Check.due("the first alone", x.dinner(1, 2, 0, 1, 5), 3);
        Check.due("the second alone", x.dinner(1, 2, 1, 1, 4), 0);
        Check.due("none", x.dinner(1, 2, 2, 0, 0), 0);
        Check.due("none", x.dinner(1, 2, 2, 0, 1), SaltBorder.NONE);
    }

    private static void dinnerWrong() {
        SaltBorder x = Check.laid(Check.SIX);
        Check.requests(x, "11100");
        for (int what = 0; what <= 15; what++) {
            if (what < 6 || what > 9) {
                int want = what == 1 ? 2 : -102;
                Check.due("what " + what, x.dinner(1, 2, 0, 5, what), want);
            }
        }
        Check.due("ahead of it", x.dinner(1, 2, 0, 2, 1), SaltBorder.NONE);
        x.pass(1);
        x.pass(1);
        Check.due("at once", x.dinner(1, 2, 0, 1, 1), 0);
        Check.due("at once", x.dinner(1, 2, 0, 1, 0), -100);
    }

    private static void dinnerChangesNothing() {
        SaltBorder x = Check.laid(Check.SIX);
        Check.requests(x, "1111");
        x.dinner(1, 2, 0, 4, 0);
        x.dinner(1, 2, 0, 2, 0);
        Check.due("salt", x.many(3), 0);
        Check.due("pepper", x.many(4), 3);
        Check.due("land", x.land(0), 11);
    }

    private static void dinnerRefused() {
        SaltBorder x = Check.laid(Check.SIX);
        Check.requests(x, "1210");
        refused(x, x.dinner(4, 9, 0, 0, 0), SaltBorder.UNKNOWN, 0);
        refused(x, x.dinner(-1, 2, 0, 0, 0), SaltBorder.UNKNOWN, 0);
        refused(x, x.dinner(1, 3, 0, 0, 0), SaltBorder.OUTSIDE, 0);
        refused(x, x.dinner(1, 1, 0, 4, 0), -12, 2);
        refused(x, x.dinner(1, 1, 0, 41, 0), SaltBorder.OUTSIDE, 0);
        refused(x, x.dinner(1, 2, 0, -1, 0), SaltBorder.OUTSIDE, 0);
        refused(x, x.dinner(2, 2, 0, 1, 0), -11, 1);
        for (int what : new int[] {-1, 6, 7, 8, 9, 16}) {
            refused(x, x.dinner(2, 2, 0, 1, what), SaltBorder.OUTSIDE, 0);
        }
        refused(x, x.dinner(1, 2, 0, 5, 0), -13, 3);
        refused(x, x.dinner(1, 2, -1, 1, 0), -13, 3);
        refused(x, x.dinner(1, 2, 5, 0, 0), -13, 3);
        refused(x, x.dinner(1, 2, Integer.MAX_VALUE, 1, 0), -13, 3);
        refused(x, x.dinner(1, 2, 4, 0, 0), 0, 0);
        x.put(1, 3, 4);
        refused(x, x.dinner(1, 2, 0, 5, 0), -13, 3);
        refused(x, x.dinner(1, 2, 0, 4, 0), SaltBorder.OUTSIDE, 0);
        Check.due("cells ahead of it", x.dinner(1, 2, 0, 3, 1), 2);
        Check.due("a cell behind a wrong one", x.dinner(1, 2, 0, 4, 1), SaltBorder.OUTSIDE);
        x.put(1, 3, -1);
        Check.due("a cell below 0", x.dinner(1, 2, 3, 1, 1), SaltBorder.OUTSIDE);
    }

    private static void refused(SaltBorder x, int got, int want, int fault) {
        Check.due("dinner", got, want);
        Check.due("its fault", x.fault(), fault);
    }

    private static void dinnerWithoutTable() {
        SaltBorder x = new SaltBorder();
        refused(x, x.dinner(0, 0, 0, 0, 0), -11, 1);
        Check.requests(x, "9");
        refused(x, x.dinner(1, 1, 0, 1, 0), -12, 2);
        refused(x, x.dinner(1, 2, 1, 1, 0), -13, 3);
        refused(x, x.dinner(1, 2, 0, 1, 0), SaltBorder.STATE, 0);
    }

    private static void longestDinner() {
        SaltBorder x = Check.laid("t3,g90,g90,g90/02;15");
        Check.requests(x, "2323232323232323232323232323232323232323");
        Check.due("minutes", x.dinner(1, 2, 0, 40, 0), 480);
        Check.due("pepper", x.dinner(1, 2, 0, 40, 5), 2);
        Check.due("pepper", x.dinner(1, 2, 0, 39, 5), 1);
    }
}
