/** Part 4 and promises 18 to 23, edge by edge. */
final class ReadingEdgeTest {
    private static final int OUTSIDE = SaltBorder.OUTSIDE, FULL = SaltBorder.FULL;
    private static final int UNKNOWN = SaltBorder.UNKNOWN;
    private static final long LOST = SaltBorder.LOST;

    public static void main(String[] args) {
        eightReadings();
        shortestAndLongest();
        backEachNumber();
        backTakesTheLast();
        backWithoutTable();
        mouthsOfGuests();
        mouthsOfAunts();
        mouthsOfChildren();
        kindsByMinutes();
        soupsByMinutes();
        allAndNone();
        allReadingsCount();
        inPlaceOfWhatItIsAlone();
        oddsOfNone();
        oddsByOne();
        oddsLongest();
        oddsAreShares();
        oddsWhatIsNotToBe();
        tellingChangesNothing();
        Check.finish();
    }

    private static SaltBorder three(int soup) {
        return Check.laid("t" + soup + ",g00,a00,c00/01;20");
    }

    /** "READINGS, 8 at most, numbered by how many there are". */
    private static void eightReadings() {
        SaltBorder x = three(0);
        for (int k = 0; k < 8; k++) {
            Check.due("how many", x.many(5), k);
            Check.due("its number", x.reading(k % 3, 0), k);
        }
        Check.due("how many", x.many(5), 8);
        Check.due("a ninth", x.reading(0, 0), FULL);
        Check.due("a ninth of no guest", x.reading(3, 0), UNKNOWN);
        Check.due("a ninth too long", x.reading(0, 20), OUTSIDE);
        Check.due("how many", x.many(5), 8);
        Check.due("one back", x.back(1), 7);
        Check.due("the eighth again", x.reading(2, 0), 7);
        Check.due("a ninth", x.reading(2, 0), FULL);
    }

    /** "v (0 .. 19)": longer ones than anybody takes, too. */
    private static void shortestAndLongest() {
        SaltBorder x = three(3);
        for (int v = 0; v <= 19; v++) {
            Check.due("v " + v, x.reading(0, v), 0);
            Check.due("mouths", x.mouths(0), v >= 3 && v <= 12 ? 1 << v - 3 : 0);
            x.back(1);
        }
        Check.due("v -1", x.reading(0, -1), OUTSIDE);
        Check.due("v 20", x.reading(0, 20), OUTSIDE);
        Check.due("none", x.many(5), 0);
    }

    /** "(0 .. as many as there are)". */
    private static void backEachNumber() {
        for (int there = 0; there <= 8; there++) {
            for (int k = -1; k <= there + 1; k++) {
                SaltBorder x = three(0);
                for (int r = 0; r < there; r++) {
                    x.reading(0, 0);
                }
                boolean isRefused = k < 0 || k > there;
                Check.due(k + " of " + there, x.back(k), isRefused ? OUTSIDE : there - k);
                Check.due("how many", x.many(5), isRefused ? there : there - k);
            }
        }
    }

    private static void backTakesTheLast() {
        SaltBorder x = three(0);
        x.reading(0, 4);
        x.reading(0, 5);
        Check.due("they do not agree", x.mouths(0), 0);
        x.back(1);
        Check.due("the first is left", x.mouths(0), 1 << 4);
        x.reading(0, 6);
        x.reading(0, 7);
        x.back(3);
        Check.due("none is left", x.mouths(0), 1023);
        x.reading(0, 5);
        Check.due("what was taken back is gone", x.mouths(0), 1 << 5);
    }

    private static void backWithoutTable() {
        SaltBorder x = new SaltBorder();
        Check.due("none", x.back(0), 0);
        Check.due("one", x.back(1), OUTSIDE);
        Check.due("below 0", x.back(-1), OUTSIDE);
    }

    /** The MOUTHS by which all of the same kind and SOUP took as long. */
    private static int mouths(int kind, int soup, int took) {
        int set = 0;
        for (int mouth = 0; mouth < 10; mouth++) {
            int whole = mouth + soup;
            int minutes = kind == 0 ? whole : kind == 1 ? (whole == 0 ? 0 : whole - 1) : (whole - whole % 2) / 2;
            set |= minutes == took ? 1 << mouth : 0;
        }
        return set;
    }

    /** "MOUTHS of a GUEST: 0 .. 9, as a set": by every SOUP and READING. */
    private static void mouthsOfGuests() {
        for (int soup = 0; soup < 4; soup++) {
            for (int v = 0; v <= 19; v++) {
                for (int g = 0; g < 3; g++) {
                    SaltBorder x = three(soup);
                    x.reading(g, v);
                    Check.due("soup " + soup + " took " + g + " " + v, x.mouths(g), mouths(g, soup, v));
                }
            }
        }
    }

    /** An AUNT's is 0 by 0 and by 1. */
    private static void mouthsOfAunts() {
        SaltBorder x = three(0);
        x.reading(1, 0);
        Check.due("without soup", x.mouths(1), 0b11);
        x.cook(1);
        Check.due("by soup 1", x.mouths(1), 0b1);
        x.cook(2);
        Check.due("by soup 2", x.mouths(1), 0);
        x.back(1);
        x.reading(1, 10);
        Check.due("the most", x.mouths(1), 1 << 9);
    }

    /** A CHILD's are two each, and at the ends perhaps one. */
    private static void mouthsOfChildren() {
        SaltBorder x = three(3);
        int[] want = {0, 0b1, 0b110, 0b11000, 0b1100000, 0b110000000, 0b1000000000, 0};
        for (int v = 0; v < want.length; v++) {
            x.reading(2, v);
            Check.due("took " + v, x.mouths(2), want[v]);
            x.back(1);
        }
    }

    /** "KINDS of a GUEST: 0 .. 2, as a set": whatever they are. */
    private static void kindsByMinutes() {
        int[] mouths = {0, 1, 2, 3, 9};
        int[][] took = {{0, 0, 0}, {1, 0, 0}, {2, 1, 1}, {3, 2, 1}, {9, 8, 4}};
        for (int m = 0; m < mouths.length; m++) {
            for (int v = 0; v <= 12; v++) {
                SaltBorder x = three(0);
                int want = 0;
                for (int kind = 0; kind < 3; kind++) {
                    x.chew(kind, mouths[m]);
                    want |= took[m][kind] == v ? 1 << kind : 0;
                }
                for (int g = 0; g < 3; g++) {
                    x.reading(g, v);
                    Check.due("mouth " + mouths[m] + " took " + v, x.kinds(g), want);
                    x.back(1);
                }
            }
        }
    }

    /** "SOUPS: 0 .. 3, as a set". */
    private static void soupsByMinutes() {
        int[][] took = {{0, 1, 2, 3}, {0, 0, 1, 2}, {0, 0, 1, 1}};
        for (int g = 0; g < 3; g++) {
            for (int v = 0; v <= 4; v++) {
                int want = 0;
                for (int soup = 0; soup < 4; soup++) {
                    want |= took[g][soup] == v ? 1 << soup : 0;
                }
                for (int soup = 0; soup < 4; soup++) {
                    SaltBorder x = three(soup);
                    x.reading(g, v);
                    Check.due(g + " took " + v, x.soups(), want);
                }
            }
        }
    }

    private static void allAndNone() {
        SaltBorder x = three(0);
        for (int g = 0; g < 3; g++) {
            Check.due("all mouths", x.mouths(g), 0b1111111111);
            Check.due("all kinds", x.kinds(g), 0b111);
        }
        Check.due("all soups", x.soups(), 0b1111);
        x.reading(0, 19);
        for (int g = 0; g < 3; g++) {
            Check.due("no mouths", x.mouths(g), 0);
            Check.due("no kinds", x.kinds(g), 0);
        }
        Check.due("no soups", x.soups(), 0);
    }

    /** "by which all READINGS are so": the first, the last, and those of other GUESTS. */
    private static void allReadingsCount() {
        for (int wrong = 0; wrong < 8; wrong++) {
            SaltBorder x = three(1);
            for (int k = 0; k < 8; k++) {
                int g = k % 3;
                x.reading(g, k == wrong ? 7 : g == 0 ? 1 : 0);
            }
            for (int g = 0; g < 3; g++) {
                Check.due("mouths", x.mouths(g), 0);
                Check.due("kinds", x.kinds(g), 0);
            }
            Check.due("soups", x.soups(), 0);
        }
        SaltBorder x = three(1);
        for (int k = 0; k < 8; k++) {
            x.reading(k % 3, k % 3 == 0 ? 1 : 0);
        }
        Check.due("guest", x.mouths(0), 0b1);
        Check.due("aunt", x.mouths(1), 0b1);
        Check.due("child", x.mouths(2), 0b1);
        Check.due("guest", x.kinds(0), 0b1);
        Check.due("aunt", x.kinds(1), 0b110);
        Check.due("child", x.kinds(2), 0b110);
        Check.due("soups", x.soups(), 0b10);
    }

    /** "in place of what it is alone": all else is as it is now. */
    private static void inPlaceOfWhatItIsAlone() {
        SaltBorder x = three(2);
        x.reading(0, 5);
        Check.due("mouth 3 by soup 2", x.mouths(0), 1 << 3);
        Check.due("no kind of mouth 0 by soup 2", x.kinds(0), 0);
        Check.due("no soup by mouth 0", x.soups(), 0);
        x.chew(0, 3);
        Check.due("the mouth itself does not count", x.mouths(0), 1 << 3);
        Check.due("a guest", x.kinds(0), 0b1);
        Check.due("soup 2", x.soups(), 0b100);
        x.chew(0, 4);
        Check.due("an aunt", x.kinds(0), 0b10);
        Check.due("soup 1", x.soups(), 0b10);
        x.cook(1);
        Check.due("mouth 4", x.mouths(0), 1 << 4);
        Check.due("the soup itself does not count", x.soups(), 0b10);
        x.chew(0, 9);
        Check.due("a child", x.kinds(0), 0b100);
        Check.due("the kind stays", x.ofGuest(0, 0), 0);
    }

    private static void share(SaltBorder x, int d, int c, int n, long upper, long lower) {
        String what = "dish " + d + " of " + c + " by " + n;
        Check.due(what + ", upper", x.odds(d, c, n, 0), upper);
        Check.due(what + ", lower", x.odds(d, c, n, 1), lower);
    }

    /** Of no REQUESTS: it is, 1 of 1; it is not, 0 of 1 ("lower number (above 0)"). */
    private static void oddsOfNone() {
        SaltBorder x = Made.laid();
        for (int d = 0; d < 5; d++) {
            for (int c = 0; c < 2; c++) {
                share(x, d, c, 0, x.ofDish(d, 2) == c ? 1 : 0, 1);
            }
        }
    }

    private static void oddsByOne() {
        SaltBorder x = Made.laid();
        share(x, 0, 0, 1, 1, 2);
        share(x, 0, 1, 1, 1, 2);
        share(x, 1, 0, 1, 1, 2);
        share(x, 1, 1, 1, 0, 1);
        share(x, 2, 1, 1, 1, 1);
        share(x, 3, 0, 1, 0, 1);
    }

    /** "ODDS for n (0 .. 8 ..)": PEPPER stands over against SALT, and is in the way from 4 on. */
    private static void oddsLongest() {
        SaltBorder x = Check.laid("t0,g00,g00,g00,g00,g00,g00,g00,g00/04;10;30;00");
        String[][] want = {
            {"1/1 1/2 3/4 1/2 11/16 1/2 21/32 65/128 163/256", "0/1 0/1 1/4 1/8 5/16 3/16 21/64 7/32 21/64"},
            {"1/1 1/1 1/1 7/8 15/16 27/32 29/32 107/128 57/64", "0/1 0/1 0/1 0/1 0/1 0/1 0/1 0/1 0/1"},
            {"0/1 1/2 1/4 1/2 5/16 1/2 11/32 63/128 93/256", "0/1 1/2 1/4 1/2 5/16 1/2 11/32 63/128 93/256"},
        };
        for (int d = 0; d < 3; d++) {
            for (int c = 0; c < 2; c++) {
                String[] shares = want[d][c].split(" ");
                for (int n = 0; n <= 8; n++) {
                    String[] numbers = shares[n].split("/");
                    share(x, d, c, n, Long.parseLong(numbers[0]), Long.parseLong(numbers[1]));
                }
            }
        }
        Check.due("nine", x.odds(0, 0, 9, 0), LOST);
        Check.due("below 0", x.odds(0, 0, -1, 0), LOST);
        Check.due("which 2", x.odds(0, 0, 0, 2), LOST);
        Check.due("which -1", x.odds(0, 0, 0, -1), LOST);
    }

    /** "in least terms", and the shares of all who can have it are 1 at most. */
    private static void oddsAreShares() {
        SaltBorder x = Check.laid("t0,g00,g00,g00,g00,g00/02;10;40");
        for (int d = 0; d < 2; d++) {
            for (int n = 0; n <= 8; n++) {
                for (int c = 0; c < 2; c++) {
                    long upper = x.odds(d, c, n, 0), lower = x.odds(d, c, n, 1);
                    Check.isSo("a share", upper >= 0 && upper <= lower && lower <= 1 << n);
                    Check.isSo("a power of two", (lower & lower - 1) == 0 && lower > 0);
                    Check.isSo("least terms", lower == 1 || upper % 2 == 1);
                }
            }
        }
    }

    /** "(what is not to be is not made)": SALT stays, and the next one comes. */
    private static void oddsWhatIsNotToBe() {
        SaltBorder x = Check.laid("t0,g00,g00,g00/02;10;00;20");
        for (int n = 1; n <= 8; n++) {
            share(x, 0, 0, n, 1, 2);
            share(x, 0, 1, n, 0, 1);
            share(x, 1, 1, n, 1, 2);
            share(x, 1, 0, n, 0, 1);
            share(x, 2, 0, n, 0, 1);
            share(x, 2, 1, n, 0, 1);
        }
    }

    private static void tellingChangesNothing() {
        SaltBorder x = Made.laid();
        for (int g = 0; g < 6; g++) {
            x.mouths(g);
            x.kinds(g);
            x.soups();
            x.odds(g % 5, g & 1, g, 0);
        }
        Check.due("fault stays", x.fault(), Made.LEFT_FAULT);
        Check.isSo("nothing is changed", Made.told(x).equals(Made.told(Made.laid())));
    }
}
