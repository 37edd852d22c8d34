/** Part 1 and promises 1, 3 to 10, edge by edge. */
final class TableEdgeTest {
    private static final int NONE = SaltBorder.NONE;

    public static void main(String[] args) {
        newObject();
        twoObjects();
        minutes();
        minutesByCook();
        whoseRoundTheTable();
        neighboursLeaveOneCountryNothing();
        dishIsWhoseItsSeatIs();
        landOfAll();
        chewEachMouth();
        cookEachSoup();
        rateEachWorth();
        carryToEachSeat();
        firstAndLastOnes();
        tellingChangesNothing();
        Check.finish();
    }

    private static String guests(int n) {
        return "t0,g00,g00,g00,g00,g00,g00,g00,g00".substring(0, 2 + 4 * n);
    }

    /** "No TABLE (no GUESTS, SEATS, DISHES), SHEETS have nothing". */
    private static void newObject() {
        SaltBorder x = new SaltBorder();
        Check.due("fault", x.fault(), 0);
        Check.due("trace", x.trace(), 0);
        for (int v = 0; v < 8; v++) {
            Check.due("guest", x.ofGuest(v, 0), SaltBorder.UNKNOWN);
            Check.due("seat", x.whose(v), SaltBorder.UNKNOWN);
            Check.due("dish", x.ofDish(v, 0), SaltBorder.UNKNOWN);
        }
        for (int k = 0; k < 4; k++) {
            Check.due("put", x.put(k, 0, 0), -11);
            for (int lane = 0; lane < 3; lane++) {
                Check.due("cell", x.cell(k, 0, lane), SaltBorder.LOST);
                Check.due("nothing is no CAST", x.fault(), 1);
            }
            Check.due("lose", x.lose(k), 0);
        }
    }

    /** What is done with one object is not seen in another. */
    private static void twoObjects() {
        SaltBorder x = Made.laid();
        SaltBorder y = new SaltBorder();
        Check.due("fault", y.fault(), 0);
        Check.due("guests", y.many(0), 0);
        Check.due("trace", y.trace(), 0);
        Check.due("sheet", y.lose(0), 0);
        Check.due("table", Check.lay(y, "t0,g00,g00,g00/12;19"), 3);
        y.tell(0);
        y.put(0, 99, 0);
        Check.due("guests", x.many(0), 6);
        Check.due("fault", x.fault(), Made.LEFT_FAULT);
        Check.isSo("nothing is changed", Made.told(x).equals(Made.told(Made.laid())));
    }

    /** "MOUTH and SOUP together; an AUNT 1 less (0 at least); a CHILD half of what a GUEST is taken". */
    private static void minutes() {
        for (int soup = 0; soup < 4; soup++) {
            SaltBorder x = Check.laid("t" + soup + ",g00,a00,c00/01;00");
            for (int mouth = 0; mouth < 10; mouth++) {
                for (int g = 0; g < 3; g++) {
                    x.chew(g, mouth);
                }
                int both = mouth + soup;
                Check.due("guest " + both, x.ofGuest(0, 3), both);
                Check.due("aunt " + both, x.ofGuest(1, 3), both == 0 ? 0 : both - 1);
                Check.due("child " + both, x.ofGuest(2, 3), (both - both % 2) / 2);
            }
        }
    }

    private static void minutesByCook() {
        SaltBorder x = Check.laid("t0,g90,a90,c90/01;00");
        int[][] want = {{9, 8, 4}, {10, 9, 5}, {11, 10, 5}, {12, 11, 6}};
        for (int soup = 0; soup < 4; soup++) {
            x.cook(soup);
            for (int g = 0; g < 3; g++) {
                Check.due("soup " + soup, x.ofGuest(g, 3), want[soup][g]);
            }
        }
    }

    /** "SEATS behind SALT's, up to the one ahead of PEPPER's, are of COUNTRY 0; .." of every border. */
    private static void whoseRoundTheTable() {
        for (int n = 3; n <= 8; n++) {
            for (int salt = 0; salt < n; salt++) {
                for (int pepper = 0; pepper < n; pepper++) {
                    if (salt != pepper) {
                        whoseAt(n, salt, pepper);
                    }
                }
            }
        }
    }

    private static void whoseAt(int n, int salt, int pepper) {
        SaltBorder x = Check.laid(guests(n) + '/' + salt + pepper + ";00");
        int owner = NONE;
        for (int step = 0; step < n; step++) {
            int seat = (salt + step) % n;
            boolean isBorder = seat == salt || seat == pepper;
            Check.due(salt + " " + pepper + " of " + n + ": " + seat, x.whose(seat), isBorder ? NONE : owner);
            owner = isBorder ? (seat == salt ? 0 : 1) : owner;
        }
        Check.due("beyond the last", x.whose(n), SaltBorder.UNKNOWN);
    }

    private static void neighboursLeaveOneCountryNothing() {
        for (int n = 3; n <= 8; n++) {
            SaltBorder behind = Check.laid(guests(n) + '/' + (n - 1) + "0;11");
            SaltBorder ahead = Check.laid(guests(n) + "/0" + (n - 1) + ";11");
            for (int seat = 1; seat < n - 1; seat++) {
                Check.due("all is of 1", behind.whose(seat), 1);
                Check.due("all is of 0", ahead.whose(seat), 0);
            }
            Check.due("land", behind.land(0), 0);
            Check.due("land", behind.land(1), 1);
            Check.due("land", ahead.land(0), 1);
            Check.due("land", ahead.land(1), 0);
        }
    }

    private static void dishIsWhoseItsSeatIs() {
        SaltBorder x = Made.laid();
        for (int d = 0; d < 5; d++) {
            for (int seat = 0; seat < 6; seat++) {
                x.carry(d, seat);
                Check.due("dish " + d + " on " + seat, x.ofDish(d, 2), x.whose(seat));
                Check.due("its seat", x.ofDish(d, 0), seat);
            }
        }
    }

    /** "LAND of a COUNTRY: WORTH of all its DISHES": nobody's count for neither. */
    private static void landOfAll() {
        SaltBorder x = Check.laid(guests(4) + "/02;19;19;19;19;19;19");
        Check.due("all", x.land(0), 54);
        Check.due("none", x.land(1), 0);
        for (int d = 0; d < 6; d++) {
            x.carry(d, d % 2 == 0 ? 0 : 2);
            Check.due("less", x.land(0), 45 - 9 * d);
            Check.due("nobody's", x.land(1), 0);
        }
        for (int d = 0; d < 6; d++) {
            x.carry(d, 3);
            Check.due("none", x.land(0), 0);
            Check.due("more", x.land(1), 9 * (d + 1));
        }
        for (int d = 0; d < 6; d++) {
            x.rate(d, 0);
        }
        Check.due("worth nothing", x.land(1), 0);
    }

    private static void chewEachMouth() {
        SaltBorder x = Made.laid();
        for (int g = 0; g < 6; g++) {
            int was = x.ofGuest(g, 1);
            for (int v = 9; v >= 0; v--) {
                Check.due("it was", x.chew(g, v), was);
                Check.due("it is", x.ofGuest(g, 1), v);
                was = v;
            }
            Check.due("the same again", x.chew(g, 0), 0);
            Check.due("arm stays", x.ofGuest(g, 2), new int[] {1, 0, 2, 0, 3, 2}[g]);
            Check.due("kind stays", x.ofGuest(g, 0), new int[] {0, 1, 2, 0, 1, 0}[g]);
        }
    }

    private static void cookEachSoup() {
        SaltBorder x = Made.laid();
        int was = 2;
        for (int v : new int[] {3, 2, 1, 0, 0, 3}) {
            Check.due("it was", x.cook(v), was);
            Check.due("it is", x.many(2), v);
            was = v;
        }
    }

    private static void rateEachWorth() {
        SaltBorder x = Made.laid();
        for (int d = 0; d < 5; d++) {
            int was = x.ofDish(d, 1);
            for (int v = 9; v >= 0; v--) {
                Check.due("it was", x.rate(d, v), was);
                Check.due("it is", x.ofDish(d, 1), v);
                was = v;
            }
            Check.due("seat stays", x.ofDish(d, 0), new int[] {1, 2, 4, 5, 0}[d]);
        }
    }

    private static void carryToEachSeat() {
        SaltBorder x = Made.laid();
        for (int d = 0; d < 5; d++) {
            int was = x.ofDish(d, 0);
            for (int seat = 0; seat < 6; seat++) {
                Check.due("where it was", x.carry(d, seat), was);
                was = seat;
            }
            Check.due("the same again", x.carry(d, 5), 5);
            Check.due("worth stays", x.ofDish(d, 1), new int[] {4, 7, 3, 2, 3}[d]);
        }
        Check.due("they stand together", x.land(1), 19);
    }

    /** The last GUEST, SEAT, DISH of the fewest and of the most, and the one beyond. */
    private static void firstAndLastOnes() {
        for (int n = 3; n <= 8; n++) {
            SaltBorder x = Check.laid(guests(n) + "/10;01;02;03;04;05;06".substring(0, 3 * (n - 1)));
            int dishes = n - 2;
            Check.due("dishes", x.many(1), dishes);
            for (int beyond : new int[] {-1, n, n + 1, 8}) {
                Check.due("guest " + beyond, x.ofGuest(beyond, 0), SaltBorder.UNKNOWN);
                Check.due("guest " + beyond, x.chew(beyond, 0), SaltBorder.UNKNOWN);
                Check.due("seat " + beyond, x.carry(0, beyond), SaltBorder.UNKNOWN);
            }
            for (int beyond : new int[] {-1, dishes, dishes + 1, 6}) {
                Check.due("dish " + beyond, x.ofDish(beyond, 0), SaltBorder.UNKNOWN);
                Check.due("dish " + beyond, x.rate(beyond, 0), SaltBorder.UNKNOWN);
                Check.due("dish " + beyond, x.carry(beyond, 0), SaltBorder.UNKNOWN);
            }
            Check.due("last guest", x.ofGuest(n - 1, 0), 0);
            Check.due("last dish", x.ofDish(dishes - 1, 1), dishes);
            Check.due("last seat", x.carry(dishes - 1, n - 1), 0);
        }
    }

    private static void tellingChangesNothing() {
        SaltBorder x = Made.laid();
        for (int v = 0; v < 5; v++) {
            x.ofGuest(v, v % 4);
            x.ofDish(v, v % 3);
            x.whose(v);
            x.land(v % 2);
            x.many(v);
        }
        Check.due("fault stays", x.fault(), Made.LEFT_FAULT);
        Check.isSo("nothing is changed", Made.told(x).equals(Made.told(Made.laid())));
    }
}
