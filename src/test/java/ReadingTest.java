/** Promises 18 to 23: READINGS, what they leave open, and ODDS. */
final class ReadingTest {
    private static final long LOST = SaltBorder.LOST;

    public static void main(String[] args) {
        readings();
        back();
        withoutReadings();
        mouths();
        kinds();
        soups();
        contradictions();
        byHowItStandsNow();
        odds();
        oddsRefused();
        Check.finish();
    }

    private static void readings() {
        SaltBorder x = Check.laid(Check.SIX);
        Check.due("guest", x.reading(6, -1), SaltBorder.UNKNOWN);
        Check.due("guest", x.reading(-1, 0), SaltBorder.UNKNOWN);
        Check.due("v", x.reading(0, 20), SaltBorder.OUTSIDE);
        Check.due("v", x.reading(0, -1), SaltBorder.OUTSIDE);
        Check.due("none yet", x.many(5), 0);
        for (int k = 0; k < 8; k++) {
            Check.due("number", x.reading(k % 6, 19), k);
            Check.due("how many", x.many(5), k + 1);
        }
        Check.due("guest", x.reading(6, 20), SaltBorder.UNKNOWN);
        Check.due("v", x.reading(0, 20), SaltBorder.OUTSIDE);
        Check.due("full", x.reading(0, 0), SaltBorder.FULL);
        Check.due("how many", x.many(5), 8);
        Check.due("no table", new SaltBorder().reading(0, 20), SaltBorder.UNKNOWN);
    }

    private static void back() {
        SaltBorder x = Check.laid(Check.SIX);
        Check.due("none", x.back(0), 0);
        Check.due("too many", x.back(1), SaltBorder.OUTSIDE);
        x.reading(0, 5);
        x.reading(1, 5);
        x.reading(2, 0);
        Check.due("it is not so", x.mouths(0), 0);
        Check.due("too many", x.back(4), SaltBorder.OUTSIDE);
        Check.due("below 0", x.back(-1), SaltBorder.OUTSIDE);
        Check.due("back none", x.back(0), 3);
        Check.due("back the last", x.back(1), 2);
        Check.due("now it is", x.mouths(0), 0b1000);
        Check.due("numbered again", x.reading(2, 5), 2);
        Check.due("back all", x.back(3), 0);
        Check.due("all are so", x.mouths(0), 1023);
        Check.due("no table", new SaltBorder().back(0), 0);
        Check.due("no table", new SaltBorder().back(1), SaltBorder.OUTSIDE);
    }

    private static void withoutReadings() {
        SaltBorder x = Check.laid(Check.SIX);
        for (int g = 0; g < 6; g++) {
            Check.due("mouths", x.mouths(g), 1023);
            Check.due("kinds", x.kinds(g), 7);
        }
        Check.due("soups", x.soups(), 15);
        Check.due("guest", x.mouths(6), SaltBorder.UNKNOWN);
        Check.due("guest", x.mouths(-1), SaltBorder.UNKNOWN);
        Check.due("guest", x.kinds(6), SaltBorder.UNKNOWN);
        Check.due("guest", x.kinds(-1), SaltBorder.UNKNOWN);
        SaltBorder none = new SaltBorder();
        Check.due("no table", none.mouths(0), SaltBorder.UNKNOWN);
        Check.due("no table", none.kinds(0), SaltBorder.UNKNOWN);
        Check.due("no table", none.soups(), SaltBorder.STATE);
    }

    private static void mouths() {
        SaltBorder x = Check.laid("t1,g31,a42,c50/02;15");
        x.reading(0, 10);
        Check.due("guest", x.mouths(0), 1 << 9);
        x.back(1);
        x.reading(1, 0);
        Check.due("aunt", x.mouths(1), 0b1);
        x.cook(0);
        Check.due("aunt without soup", x.mouths(1), 0b11);
        x.cook(1);
        x.back(1);
        x.reading(2, 4);
        Check.due("child: two mouths, halved alike", x.mouths(2), 1 << 7 | 1 << 8);
        Check.due("it is the child's, nobody else's", x.mouths(0), 0);
        x.back(1);
        x.reading(2, 3);
        Check.due("the child's is so", x.mouths(0), 1023);
    }

    private static void kinds() {
        SaltBorder x = Check.laid("t1,g01,a02,c50/02;15");
        x.reading(0, 0);
        Check.due("aunt or child", x.kinds(0), 0b110);
        x.back(1);
        x.reading(0, 1);
        Check.due("guest", x.kinds(0), 0b1);
        x.back(1);
        x.reading(2, 5);
        Check.due("aunt", x.kinds(2), 0b10);
        x.back(1);
        x.reading(2, 3);
        Check.due("child", x.kinds(2), 0b100);
        Check.due("so for the others all", x.kinds(0), 7);
        x.reading(2, 4);
        Check.due("none", x.kinds(2), 0);
    }

    private static void soups() {
        SaltBorder x = Check.laid("t1,g01,a02,c50/02;15");
        x.reading(0, 3);
        Check.due("by the guest", x.soups(), 0b1000);
        x.back(1);
        x.reading(1, 0);
        Check.due("by the aunt", x.soups(), 0b11);
        x.back(1);
        x.reading(2, 3);
        Check.due("by the child", x.soups(), 0b110);
        x.reading(1, 0);
        Check.due("by both", x.soups(), 0b10);
        x.reading(0, 2);
        Check.due("by all", x.soups(), 0);
    }

    private static void contradictions() {
        SaltBorder x = Check.laid(Check.SIX);
        x.reading(0, 5);
        x.reading(0, 6);
        for (int g = 0; g < 6; g++) {
            Check.due("mouths", x.mouths(g), 0);
            Check.due("kinds", x.kinds(g), 0);
        }
        Check.due("soups", x.soups(), 0);
    }

    private static void byHowItStandsNow() {
        SaltBorder x = Check.laid(Check.SIX);
        x.reading(0, 5);
        x.reading(3, 3);
        Check.due("as it stands", x.soups(), 0b100);
        x.chew(0, 5);
        Check.due("mouth alone is another", x.mouths(0), 0b1000);
        Check.due("of another guest's nothing helps", x.mouths(3), 0);
        Check.due("soup alone does not do", x.soups(), 0);
        x.chew(3, 3);
        Check.due("now soup alone does", x.soups(), 0b1);
        Check.due("the mouth stays", x.ofGuest(0, 1), 5);
        Check.due("the soup stays", x.many(2), 2);
    }

    private static void share(SaltBorder x, int d, int c, int n, long[] want) {
        Check.due("upper of " + n, x.odds(d, c, n, 0), want[0]);
        Check.due("lower of " + n, x.odds(d, c, n, 1), want[1]);
    }

    private static void odds() {
        SaltBorder x = Check.laid(Check.SIX);
        share(x, 0, 0, 0, new long[] {1, 1});
        share(x, 0, 1, 0, new long[] {0, 1});
        share(x, 0, 0, 1, new long[] {1, 2});
        share(x, 0, 0, 2, new long[] {3, 4});
        share(x, 0, 1, 2, new long[] {1, 4});
        share(x, 0, 0, 8, new long[] {163, 256});
        share(x, 4, 0, 1, new long[] {1, 2});
        share(x, 4, 0, 0, new long[] {0, 1});
        SaltBorder three = Check.laid("t0,g00,g00,g00/02;15;00");
        share(three, 0, 0, 1, new long[] {1, 2});
        share(three, 1, 1, 1, new long[] {1, 2});
        share(three, 0, 0, 8, new long[] {1, 2});
        share(three, 0, 1, 8, new long[] {0, 1});
        Check.due("nothing is passed", x.many(3), 0);
    }

    private static void oddsRefused() {
        SaltBorder x = Check.laid(Check.SIX);
        Check.due("dish", x.odds(5, 0, 0, 0), LOST);
        Check.due("dish", x.odds(-1, 0, 0, 0), LOST);
        Check.due("country", x.odds(0, 2, 0, 0), LOST);
        Check.due("country", x.odds(0, -1, 0, 0), LOST);
        Check.due("n", x.odds(0, 0, 9, 0), LOST);
        Check.due("n", x.odds(0, 0, -1, 0), LOST);
        Check.due("which", x.odds(0, 0, 0, 2), LOST);
        Check.due("which", x.odds(0, 0, 0, -1), LOST);
        Check.due("no table", new SaltBorder().odds(0, 0, 0, 0), LOST);
    }
}
