/** Part 3 and promises 16, 17, edge by edge: SPILT and HOME. */
final class SpillEdgeTest {
    private static final int NONE = SaltBorder.NONE, OUTSIDE = SaltBorder.OUTSIDE;
    private static final long LOST = SaltBorder.LOST;

    public static void main(String[] args) {
        nobodyAndAll();
        arms();
        armsRoundTheTable();
        fewestAheadOfLeast();
        leastOfSeveral();
        justTheseAreWet();
        setsOfSeats();
        homeOfNone();
        homeEveryBorder();
        homeRefused();
        tellingChangesNothing();
        Check.finish();
    }

    private static SaltBorder withArms(String arms) {
        StringBuilder text = new StringBuilder("t0");
        for (int g = 0; g < arms.length(); g++) {
            text.append(",g0").append(arms.charAt(g));
        }
        return Check.laid(text.append("/01;00").toString());
    }

    /** The empty set is wet by nobody; all SEATS, where each wets their own alone, by all. */
    private static void nobodyAndAll() {
        for (int n = 3; n <= 8; n++) {
            SaltBorder x = withArms("00000000".substring(0, n));
            for (int set = 0; set < 1 << n; set++) {
                Check.due("each their own", x.spilt(set), set);
            }
            SaltBorder wide = withArms("33333333".substring(0, n));
            Check.due("nobody", wide.spilt(0), 0);
            Check.due("all", wide.spilt((1 << n) - 1), n < 8 ? 1 : 3);
        }
    }

    /** "all SEATS that are no more than ARM off theirs". */
    private static void arms() {
        SaltBorder x = withArms("00120300");
        Check.due("arm 0", x.spilt(0b00000010), 0b00000010);
        Check.due("arm 1", x.spilt(0b00001110), 0b00000100);
        Check.due("arm 2", x.spilt(0b00111110), 0b00001000);
        Check.due("arm 3", x.spilt(0b11111101), 0b00100000);
        Check.due("arm 1 wets no fewer", x.spilt(0b00000100), NONE);
        Check.due("arm 2 wets no fewer", x.spilt(0b00001000), NONE);
        Check.due("arm 3 wets no fewer", x.spilt(0b00100000), NONE);
    }

    /** "round the table": from the first SEAT and from the last one, on every table. */
    private static void armsRoundTheTable() {
        for (int n = 3; n <= 8; n++) {
            for (int arm = 0; arm < 4; arm++) {
                String dry = "00000000".substring(0, n - 1);
                wets(withArms(arm + dry), n, 0, arm);
                wets(withArms(dry + arm), n, n - 1, arm);
            }
        }
    }

    private static void wets(SaltBorder x, int n, int g, int arm) {
        int set = 0;
        for (int off = -arm; off <= arm; off++) {
            set |= 1 << (g + off + 2 * n) % n;
        }
        Check.due("arm " + arm + " of " + g + " of " + n, x.spilt(set), 1 << g);
        Check.due("their own alone", x.spilt(1 << g), arm == 0 ? 1 << g : NONE);
    }

    /** "the fewest GUESTS": one of number 128, though two make 65. */
    private static void fewestAheadOfLeast() {
        Check.due("one", withArms("10000012").spilt(0b11100011), 0b10000000);
        Check.due("two", withArms("10000010").spilt(0b11100011), 0b01000001);
        Check.due("one ahead of three", withArms("00000001").spilt(0b11000001), 0b10000000);
    }

    /** "of several the least". */
    private static void leastOfSeveral() {
        Check.due("each wets all", withArms("3333333").spilt(127), 1);
        Check.due("but the first", withArms("0333333").spilt(127), 2);
        Check.due("but the last", withArms("0000003").spilt(127), 64);
        Check.due("two of eight", withArms("33333333").spilt(255), 0b11);
        Check.due("two, one far", withArms("03000300").spilt(255), 0b00100010);
        Check.due("two, and one for a seat", withArms("30003000").spilt(255), 0b00010001);
    }

    /** "by whom just these are wet". */
    private static void justTheseAreWet() {
        SaltBorder x = withArms("11111111");
        Check.due("one seat", x.spilt(0b1), NONE);
        Check.due("two seats", x.spilt(0b11), NONE);
        Check.due("three seats", x.spilt(0b111), 0b10);
        Check.due("four seats", x.spilt(0b1111), 0b110);
        Check.due("five seats", x.spilt(0b11111), 0b1010);
        Check.due("three and two", x.spilt(0b110111), NONE);
        Check.due("three and three", x.spilt(0b1110111), 0b100010);
        Check.due("all", x.spilt(0b11111111), 0b100101);
    }

    /** "set (of SEATS that there are)": the last SEAT and the one beyond. */
    private static void setsOfSeats() {
        for (int n = 3; n <= 8; n++) {
            SaltBorder x = withArms("00000000".substring(0, n));
            Check.due("the last", x.spilt(1 << n - 1), 1 << n - 1);
            Check.due("beyond", x.spilt(1 << n), OUTSIDE);
            Check.due("beyond and the first", x.spilt(1 << n | 1), OUTSIDE);
            Check.due("far beyond", x.spilt(1 << 30), OUTSIDE);
            Check.due("seat 31", x.spilt(1 << 31), OUTSIDE);
            Check.due("below 0", x.spilt(-1), OUTSIDE);
            Check.due("the most", x.spilt(Integer.MAX_VALUE), OUTSIDE);
        }
        Check.due("no table", new SaltBorder().spilt(0), SaltBorder.STATE);
        Check.due("no table", new SaltBorder().spilt(1), SaltBorder.STATE);
    }

    /** Of no REQUESTS there is one row; by one SALT is never where it was. */
    private static void homeOfNone() {
        for (int n = 3; n <= 8; n++) {
            SaltBorder x = withArms("00000000".substring(0, n));
            Check.due("none", x.home(0), 1);
            Check.due("one", x.home(1), 0);
            Check.due("two, pepper is beside", x.home(2), 1);
            Check.due("nineteen", x.home(19), 0);
        }
    }

    /** PEPPER stays and is not passed by, so SALT goes about on a row of one SEAT fewer. */
    private static void homeEveryBorder() {
        long[][] twenty = {
            {1, 1}, {512, 1024, 512}, {4181, 10946, 10946, 4181}, {9842, 29525, 39366, 29525, 9842},
            {14041, 45542, 70755, 70755, 45542, 14041},
            {16016, 54320, 92112, 107616, 92112, 54320, 16016},
        };
        for (int n = 3; n <= 8; n++) {
            for (int border = 0; border < n * n; border++) {
                int salt = border / n, pepper = border % n;
                if (salt != pepper) {
                    homes(n, salt, pepper, twenty[n - 3][(salt - pepper + n) % n - 1]);
                }
            }
        }
    }

    private static void homes(int n, int salt, int pepper, long twenty) {
        String guests = "t0,g00,g00,g00,g00,g00,g00,g00,g00".substring(0, 2 + 4 * n);
        SaltBorder x = Check.laid(guests + '/' + salt + pepper + ";00");
        String what = salt + " and " + pepper + " of " + n;
        int steps = (salt - pepper + n) % n;
        boolean isBesideBoth = n == 3;
        boolean isBeside = steps == 1 || steps == n - 1;
        Check.due(what + " by 2", x.home(2), isBeside || isBesideBoth ? 1 : 2);
        Check.due(what + " by 3", x.home(3), 0);
        Check.due(what + " by 20", x.home(20), twenty);
    }

    /** "HOME for n (0 .. 20)". */
    private static void homeRefused() {
        SaltBorder x = Made.laid();
        for (int n : new int[] {-1, 21, Integer.MIN_VALUE, Integer.MAX_VALUE}) {
            Check.due("home " + n, x.home(n), LOST);
        }
        Check.due("no table", new SaltBorder().home(0), LOST);
        Check.due("no table", new SaltBorder().home(20), LOST);
        Check.due("fault stays", x.fault(), Made.LEFT_FAULT);
    }

    private static void tellingChangesNothing() {
        SaltBorder x = Made.laid();
        for (int n = 0; n <= 20; n++) {
            x.home(n);
            x.spilt(3 * n);
        }
        Check.due("fault stays", x.fault(), Made.LEFT_FAULT);
        Check.isSo("nothing is changed", Made.told(x).equals(Made.told(Made.laid())));
    }
}
