/** Part 2 and promises 11, 12, edge by edge. */
final class RequestEdgeTest {
    private static final int NONE = SaltBorder.NONE, STATE = SaltBorder.STATE, OUTSIDE = SaltBorder.OUTSIDE;

    public static void main(String[] args) {
        everyBorderEveryRequest();
        roundTheTable();
        minutesOfWhereItStood();
        refusedPassChangesNothing();
        passAloneIsPassed();
        dinnerOfNone();
        dinnerIsFromNow();
        longestDinner();
        firstWrongFirstAndLast();
        firstWrongOfSeveral();
        dishesThatThereAre();
        cellsThatAreNoRequests();
        cutCells();
        whereTheCellsStand();
        dinnerChangesNothing();
        Check.finish();
    }

    /** MOUTH of GUEST g is g + 1, so that MINUTES tell by whom something was passed. */
    private static String guests(int n) {
        return "t0,g10,g20,g30,g40,g50,g60,g70,g80".substring(0, 2 + 4 * n);
    }

    /** "0 SALT is passed to the SEAT ahead of its own, 1 to the one behind; 2 PEPPER .." */
    private static void everyBorderEveryRequest() {
        for (int n = 3; n <= 8; n++) {
            for (int border = 0; border < n * n; border++) {
                for (int r = 0; r < 4 && border / n != border % n; r++) {
                    requestAt(n, border / n, border % n, r);
                }
            }
        }
    }

    private static void requestAt(int n, int salt, int pepper, int r) {
        SaltBorder x = Check.laid(guests(n) + '/' + salt + pepper + ";00");
        int from = r < 2 ? salt : pepper;
        int to = (from + (r % 2 == 0 ? n - 1 : 1)) % n;
        boolean isToBe = to != (r < 2 ? pepper : salt);
        String what = n + " seats, " + salt + pepper + " request " + r;
        Made.fill(x, 1, 0, r);
        Check.due(what + " told", x.dinner(1, 0, 0, 1, 1), isToBe ? NONE : 0);
        Check.due(what + " told", x.dinner(1, 0, 0, 1, 0), isToBe ? from + 1 : -100);
        Check.due(what, x.pass(r), isToBe ? from + 1 : STATE);
        Check.due(what + " salt", x.many(3), isToBe && r < 2 ? to : salt);
        Check.due(what + " pepper", x.many(4), isToBe && r >= 2 ? to : pepper);
    }

    /** "behind the last one the first one comes again": once round, both ways. */
    private static void roundTheTable() {
        SaltBorder x = Check.laid(guests(8) + "/07;00");
        for (int seat = 0; seat < 6; seat++) {
            Check.due("salt behind", x.pass(1), seat + 1);
        }
        Check.due("pepper stands there", x.pass(1), STATE);
        Check.due("pepper behind the last", x.pass(3), 8);
        Check.due("on the first", x.many(4), 0);
        Check.due("salt behind", x.pass(1), 7);
        Check.due("pepper stands there", x.pass(1), STATE);
        Check.due("pepper ahead of the first", x.pass(2), STATE);
        Check.due("salt back", x.pass(0), 8);
        Check.due("pepper ahead of the first", x.pass(2), 1);
        Check.due("on the last", x.many(4), 7);
    }

    /** "It takes the MINUTES of who sits where it stood", by kind and SOUP; 0 of them, too. */
    private static void minutesOfWhereItStood() {
        SaltBorder x = Check.laid("t0,g00,a00,c10,g90,a90,c90/03;00");
        Check.due("guest 0", x.pass(1), 0);
        Check.due("aunt 0", x.pass(1), 0);
        Check.due("child 1", x.pass(0), 0);
        Check.due("guest 9", x.pass(3), 9);
        Check.due("aunt 9", x.pass(3), 8);
        Check.due("child 9", x.pass(2), 4);
        x.cook(3);
        Check.due("aunt 12", x.pass(3), 11);
        Check.due("child 12", x.pass(2), 6);
        x.chew(4, 0);
        Check.due("aunt 3", x.pass(3), 2);
    }

    private static void refusedPassChangesNothing() {
        String want = Made.told(Made.touching());
        for (int r : new int[] {-1, 4, 1, 2}) {
            SaltBorder x = Made.touching();
            Check.due("refused", x.pass(r), r == 1 || r == 2 ? STATE : OUTSIDE);
            Check.due("fault stays", x.fault(), Made.LEFT_FAULT);
            Check.isSo("nothing is changed by " + r, Made.told(x).equals(want));
        }
    }

    /** Passing changes where one of the two stands, and no more. */
    private static void passAloneIsPassed() {
        for (int r = 0; r < 4; r++) {
            SaltBorder x = Made.laid();
            Check.isSo("it is to be", x.pass(r) >= 0);
            Check.due("fault stays", x.fault(), Made.LEFT_FAULT);
            Check.isSo("and back", x.pass(r ^ 1) >= 0);
            Check.isSo("all else stays", Made.told(x).equals(Made.told(Made.laid())));
        }
    }

    /** "n (0 .. 40)": a DINNER of none is how all stands now. */
    private static void dinnerOfNone() {
        SaltBorder x = Made.laid();
        int[] want = {0, NONE, 7, 8, 1, 3};
        for (int i = 0; i <= 8; i += 8) {
            for (int what = 0; what < 6; what++) {
                Check.due("what " + what, x.dinner(2, 2, i, 0, what), want[what]);
            }
            for (int d = 0; d < 6; d++) {
                Check.due("dish " + d, x.dinner(2, 2, i, 0, 10 + d), d < 5 ? x.ofDish(d, 2) : NONE);
            }
        }
        x.sheet(3, 1, 0);
        Check.due("of an empty row", x.dinner(3, 1, 0, 0, 4), 1);
        Check.due("one of an empty row", x.dinner(3, 1, 0, 1, 4), -13);
        Check.due("beyond an empty row", x.dinner(3, 1, 1, 0, 4), -13);
    }

    private static void dinnerIsFromNow() {
        SaltBorder x = Made.laid();
        Made.fill(x, 1, 1, 0, 0);
        Check.due("salt", x.dinner(1, 1, 0, 2, 4), 5);
        Check.due("minutes", x.dinner(1, 1, 0, 2, 0), 10);
        x.pass(0);
        Check.due("salt", x.dinner(1, 1, 0, 2, 4), 4);
        Check.due("minutes", x.dinner(1, 1, 0, 2, 0), 12);
        Check.due("land 0", x.dinner(1, 1, 0, 2, 2), 16);
        Check.due("land 1", x.dinner(1, 1, 0, 2, 3), 0);
        x.pass(0);
        x.pass(0);
        Check.due("now pepper is there", x.dinner(1, 1, 0, 2, 1), 0);
    }

    private static void longestDinner() {
        SaltBorder x = Check.laid("t3,g90,g90,g90/01;29");
        x.sheet(1, 0, 60);
        for (int k = 0; k < 60; k++) {
            x.put(1, k, k % 2);
        }
        // SALT goes to the third SEAT and back: ahead of SEAT 0 is SEAT 2, behind it SEAT 0 again.
        Check.due("forty", x.dinner(1, 0, 0, 40, 0), 480);
        Check.due("home", x.dinner(1, 0, 20, 40, 4), 0);
        Check.due("thirty-nine", x.dinner(1, 0, 0, 39, 4), 2);
        Check.due("forty-one", x.dinner(1, 0, 0, 41, 0), OUTSIDE);
        Check.due("forty from 21 on", x.dinner(1, 0, 21, 40, 0), -13);
        x.put(1, 39, 0);
        Check.due("the fortieth", x.dinner(1, 0, 0, 40, 1), 39);
        Check.due("the fortieth", x.dinner(1, 0, 0, 40, 0), -139);
        Check.due("ahead of it", x.dinner(1, 0, 0, 39, 1), NONE);
    }

    /** "its FIRST WRONG (1; NONE)", "of one with a FIRST WRONG: -100 less that (but what 1)". */
    private static void firstWrongFirstAndLast() {
        SaltBorder x = Made.laid();
        int[][] rows = {{1, 1, 0, 0}, {1, 2, 2, 2}, {0, 0, 0, 0}, {3, 3, 3, 3}, {1, 0, 1, 3}};
        int[] wrong = {1, 1, 3, 3, NONE};
        for (int k = 0; k < rows.length; k++) {
            Made.fill(x, 1, 2, rows[k]);
            Check.due("first wrong", x.dinner(1, 2, 0, 4, 1), wrong[k]);
            for (int what : new int[] {0, 2, 3, 4, 5, 10, 11, 14, 15}) {
                boolean isSo = x.dinner(1, 2, 0, 4, what) == -100 - wrong[k];
                Check.isSo("what " + what + " of " + k, isSo == (wrong[k] != NONE));
            }
        }
        SaltBorder touching = Made.touching();
        Made.fill(touching, 1, 2, 2, 0);
        Check.due("the first one", touching.dinner(1, 2, 0, 2, 1), 0);
        Check.due("the first one", touching.dinner(1, 2, 0, 2, 15), -100);
    }

    /** Places are the DINNER's, from 0 on, and what is behind the first wrong one counts for nothing. */
    private static void firstWrongOfSeveral() {
        SaltBorder x = Made.touching();
        Made.fill(x, 1, 0, 0, 0, 0, 1, 3, 1, 1, 2, 2);
        Check.due("from 0", x.dinner(1, 0, 0, 9, 1), 8);
        Check.due("from 3", x.dinner(1, 0, 3, 6, 1), 0);
        Check.due("from 4", x.dinner(1, 0, 4, 5, 1), 2);
        Check.due("from 7", x.dinner(1, 0, 7, 2, 0), -100);
        Check.due("none up to there", x.dinner(1, 0, 0, 8, 1), NONE);
    }

    /** "whose DISH d is then (10 and d; NONE: nobody's, there is no such DISH)". */
    private static void dishesThatThereAre() {
        for (int dishes = 1; dishes <= 6; dishes++) {
            String text = guests(5) + "/13;20;20;20;20;20;20".substring(0, 3 + 3 * dishes);
            SaltBorder x = Check.laid(text);
            Made.fill(x, 1, 0, 1, 3);
            for (int d = 0; d < 6; d++) {
                Check.due("now", x.dinner(1, 0, 0, 0, 10 + d), d < dishes ? 0 : NONE);
                Check.due("salt is on it", x.dinner(1, 0, 0, 1, 10 + d), NONE);
                Check.due("pepper is passed", x.dinner(1, 0, 1, 1, 10 + d), d < dishes ? 0 : NONE);
            }
            Made.fill(x, 1, 0, 3, 1, 1);
            for (int d = 0; d < 6; d++) {
                Check.due("the other's", x.dinner(1, 0, 0, 3, 10 + d), d < dishes ? 1 : NONE);
            }
        }
    }

    /** "OUTSIDE: a cell is no REQUEST 0 .. 3": only of cells of the DINNER, wherever in it. */
    private static void cellsThatAreNoRequests() {
        int[] wrong = {-1, 4, Integer.MIN_VALUE, Integer.MAX_VALUE};
        for (int at = 0; at < 5; at++) {
            for (int v : wrong) {
                SaltBorder x = Made.laid();
                Made.fill(x, 1, 2, 0, 1, 0, 1, 0);
                x.put(1, at, v);
                Check.due("in it", x.dinner(1, 2, 0, 5, 1), OUTSIDE);
                Check.due("its fault", x.fault(), 0);
                Check.due("behind it", x.dinner(1, 2, 0, at, 1), NONE);
                Check.due("its last one", x.dinner(1, 2, 0, at + 1, 0), OUTSIDE);
                Check.due("ahead of it", x.dinner(1, 2, at + 1, 4 - at, 1), NONE);
            }
        }
        SaltBorder x = Made.laid();
        Made.fill(x, 1, 2, 0, 1, 2, 3);
        Check.due("all four", x.dinner(1, 2, 0, 4, 1), NONE);
        Check.due("all four", x.dinner(1, 2, 0, 4, 0), 5 + 5 + 3 + 5);
    }

    private static void cutCells() {
        SaltBorder x = Made.laid();
        Made.fill(x, 1, 0, 256, 259);
        Check.due("bytes", x.dinner(1, 0, 0, 2, 1), NONE);
        Check.due("salt", x.dinner(1, 0, 0, 2, 4), 0);
        Check.due("pepper", x.dinner(1, 0, 0, 2, 5), 4);
        Made.fill(x, 1, 1, 65536, 65539);
        Check.due("shorts", x.dinner(1, 1, 0, 2, 5), 4);
        Made.fill(x, 1, 1, 256);
        Check.due("a short of 256", x.dinner(1, 1, 0, 1, 1), OUTSIDE);
    }

    private static void whereTheCellsStand() {
        for (int k = 0; k < 4; k++) {
            SaltBorder x = Made.laid();
            int lane = k % 3;
            Made.fill(x, k, lane, 9, 9, 0, 3, 9);
            Check.due("from 2", x.dinner(k, lane, 2, 2, 5), 4);
            Check.due("from 3", x.dinner(k, lane, 3, 1, 4), 1);
            Check.due("from 1", x.dinner(k, lane, 1, 2, 4), OUTSIDE);
            Check.due("from 2, three", x.dinner(k, lane, 2, 3, 4), OUTSIDE);
            Check.due("from 5, none", x.dinner(k, lane, 5, 0, 4), 1);
            Check.due("its fault", x.fault(), 0);
        }
    }

    /** "from how all stands now (nothing is changed)". */
    private static void dinnerChangesNothing() {
        SaltBorder x = Made.laid();
        for (int n = 0; n <= 8; n++) {
            for (int what = 0; what < 16; what++) {
                x.dinner(2, 2, 0, n, what);
            }
        }
        Check.isSo("nothing is changed", Made.told(x).equals(Made.told(Made.laid())));
    }
}
