/** Promises 24 to 28 and 33: SHEETS, and the FAULTS of the calls that name them. */
final class SheetTest {
    private static final int MIN = Integer.MIN_VALUE, MAX = Integer.MAX_VALUE;

    public static void main(String[] args) {
        sheet();
        lose();
        put();
        cut();
        cell();
        copy();
        copyOverlapping();
        copyFaults();
        faultIsOfTheLatest();
        Check.finish();
    }

    private static void faulty(SaltBorder x, long got, long want, int fault) {
        Check.due("answer", got, want);
        Check.due("its fault", x.fault(), fault);
    }

    private static void sheet() {
        SaltBorder x = new SaltBorder();
        faulty(x, x.sheet(4, 3, -1), SaltBorder.UNKNOWN, 0);
        faulty(x, x.sheet(-1, 0, 0), SaltBorder.UNKNOWN, 0);
        faulty(x, x.sheet(0, 3, -1), SaltBorder.OUTSIDE, 0);
        faulty(x, x.sheet(0, -1, 0), SaltBorder.OUTSIDE, 0);
        faulty(x, x.sheet(0, 0, 61), SaltBorder.OUTSIDE, 0);
        faulty(x, x.sheet(0, 0, -1), -14, 4);
        faulty(x, x.sheet(0, 0, MIN), -14, 4);
        Check.due("it still has nothing", x.lose(0), 0);
        for (int k = 0; k < 4; k++) {
            faulty(x, x.sheet(k, 2, 60), 1, 0);
            faulty(x, x.cell(k, 59, 2), 0, 0);
            faulty(x, x.put(k, 59, 7 + k), 1, 0);
        }
        for (int k = 0; k < 4; k++) {
            faulty(x, x.cell(k, 59, 2), 7 + k, 0);
        }
        faulty(x, x.sheet(0, 0, -1), -14, 4);
        faulty(x, x.cell(0, 59, 2), 7, 0);
        faulty(x, x.sheet(0, 1, 60), 1, 0);
        faulty(x, x.cell(0, 59, 1), 0, 0);
        faulty(x, x.sheet(0, 1, 0), 1, 0);
        faulty(x, x.cell(0, 0, 1), SaltBorder.LOST, 3);
    }

    private static void lose() {
        SaltBorder x = new SaltBorder();
        Check.due("sheet 4", x.lose(4), SaltBorder.UNKNOWN);
        Check.due("sheet -1", x.lose(-1), SaltBorder.UNKNOWN);
        Check.due("nothing", x.lose(0), 0);
        x.sheet(0, 0, 0);
        Check.due("a row of none is a row", x.lose(0), 1);
        Check.due("nothing", x.lose(0), 0);
        faulty(x, x.put(0, 0, 0), -11, 1);
        Check.due("lose names no fault", x.lose(0), 0);
        Check.due("so it stays", x.fault(), 1);
    }

    private static void put() {
        SaltBorder x = new SaltBorder();
        faulty(x, x.put(4, 0, 0), SaltBorder.UNKNOWN, 0);
        faulty(x, x.put(-1, 0, 0), SaltBorder.UNKNOWN, 0);
        faulty(x, x.put(0, -1, 0), -11, 1);
        x.sheet(0, 0, 3);
        faulty(x, x.put(0, 3, 1), -13, 3);
        faulty(x, x.put(0, -1, 1), -13, 3);
        faulty(x, x.put(0, MAX, 1), -13, 3);
        faulty(x, x.put(0, MIN, 1), -13, 3);
        faulty(x, x.put(0, 2, 9), 1, 0);
        faulty(x, x.cell(0, 2, 0), 9, 0);
        faulty(x, x.cell(0, 1, 0), 0, 0);
    }

    private static void cut() {
        SaltBorder x = new SaltBorder();
        int[] put = {127, 128, 255, 256, -129, 32767, 32768, 65536, MAX, MIN, -1};
        int[][] want = {
            {127, -128, -1, 0, 127, -1, 0, 0, -1, 0, -1},
            {127, 128, 255, 256, -129, 32767, -32768, 0, -1, 0, -1},
            put,
        };
        for (int lane = 0; lane < 3; lane++) {
            x.sheet(lane, lane, 1);
            for (int k = 0; k < put.length; k++) {
                faulty(x, x.put(lane, 0, put[k]), 1, 0);
                faulty(x, x.cell(lane, 0, lane), want[lane][k], 0);
            }
        }
    }

    private static void cell() {
        SaltBorder x = new SaltBorder();
        long lost = SaltBorder.LOST;
        faulty(x, x.cell(0, -1, 0), lost, 1);
        faulty(x, x.cell(4, 0, 0), lost, 0);
        faulty(x, x.cell(0, -1, 2), lost, 1);
        faulty(x, x.cell(-1, 0, 0), lost, 0);
        x.sheet(0, 1, 2);
        faulty(x, x.cell(0, 5, 0), lost, 2);
        faulty(x, x.cell(0, 0, 3), lost, 0);
        faulty(x, x.cell(0, 5, 2), lost, 2);
        faulty(x, x.cell(0, 0, -1), lost, 0);
        faulty(x, x.cell(0, 2, 1), lost, 3);
        faulty(x, x.cell(0, -1, 1), lost, 3);
        faulty(x, x.cell(0, MAX, 1), lost, 3);
        faulty(x, x.cell(0, 1, 1), 0, 0);
    }

    private static void fill(SaltBorder x, int k, int lane, int n) {
        x.sheet(k, lane, n);
        for (int i = 0; i < n; i++) {
            x.put(k, i, 10 * k + i + 1);
        }
    }

    private static void row(SaltBorder x, int k, int lane, int[] want) {
        for (int i = 0; i < want.length; i++) {
            Check.due("cell " + i, x.cell(k, i, lane), want[i]);
        }
    }

    private static void copy() {
        SaltBorder x = new SaltBorder();
        fill(x, 0, 1, 4);
        fill(x, 1, 1, 3);
        faulty(x, x.copy(0, 1, 1, 0, 2), 2, 0);
        row(x, 1, 1, new int[] {2, 3, 13});
        row(x, 0, 1, new int[] {1, 2, 3, 4});
        faulty(x, x.copy(1, 0, 0, 1, 3), 3, 0);
        row(x, 0, 1, new int[] {1, 2, 3, 13});
        x.put(1, 0, 99);
        row(x, 0, 1, new int[] {1, 2, 3, 13});
        faulty(x, x.copy(0, 4, 1, 3, 0), 0, 0);
    }

    private static void copyOverlapping() {
        SaltBorder x = new SaltBorder();
        fill(x, 0, 2, 5);
        faulty(x, x.copy(0, 0, 0, 1, 4), 4, 0);
        row(x, 0, 2, new int[] {1, 1, 2, 3, 4});
        fill(x, 0, 2, 5);
        faulty(x, x.copy(0, 1, 0, 0, 4), 4, 0);
        row(x, 0, 2, new int[] {2, 3, 4, 5, 5});
        faulty(x, x.copy(0, 0, 0, 0, 5), 5, 0);
        row(x, 0, 2, new int[] {2, 3, 4, 5, 5});
    }

    private static void copyFaults() {
        SaltBorder x = new SaltBorder();
        fill(x, 0, 0, 4);
        fill(x, 1, 0, 3);
        fill(x, 2, 1, 4);
        faulty(x, x.copy(4, 0, 0, 0, 0), SaltBorder.UNKNOWN, 0);
        faulty(x, x.copy(3, -1, 0, 0, -1), -11, 1);
        faulty(x, x.copy(0, 0, 4, 0, 0), SaltBorder.UNKNOWN, 0);
        faulty(x, x.copy(3, 0, -1, 0, 0), SaltBorder.UNKNOWN, 0);
        faulty(x, x.copy(0, -1, 3, 0, 0), -11, 1);
        faulty(x, x.copy(3, 0, 3, 0, 0), -11, 1);
        faulty(x, x.copy(0, -1, 2, -1, -1), -12, 2);
        int[][] beyond = {
            {-1, 0, 1}, {0, -1, 1}, {0, 0, -1}, {0, 0, 4}, {2, 0, 3}, {0, 1, 3}, {5, 0, 0},
            {0, 4, 0}, {-1, 0, 0}, {0, -1, 0}, {MAX, 0, 1}, {0, MAX, 1}, {1, 1, MAX},
            {MAX, MAX, MAX}, {MIN, 0, 0}, {0, MIN, 0}, {0, 0, MIN}, {1, 0, MIN},
        };
        for (int[] b : beyond) {
            faulty(x, x.copy(0, b[0], 1, b[1], b[2]), -13, 3);
        }
        row(x, 1, 0, new int[] {11, 12, 13});
        row(x, 2, 1, new int[] {21, 22, 23, 24});
    }

    private static void faultIsOfTheLatest() {
        SaltBorder x = new SaltBorder();
        faulty(x, x.put(0, 0, 0), -11, 1);
        x.many(0);
        x.pass(0);
        x.land(5);
        Check.due("calls that name none leave it", x.fault(), 1);
        faulty(x, x.put(9, 0, 0), SaltBorder.UNKNOWN, 0);
        faulty(x, x.sheet(0, 0, -5), -14, 4);
        faulty(x, x.sheet(0, 0, 5), 1, 0);
        faulty(x, x.put(0, 5, 0), -13, 3);
        faulty(x, x.as(0, 0), SaltBorder.UNKNOWN, 0);
        faulty(x, x.put(0, 5, 0), -13, 3);
        faulty(x, x.table(0, 0, 0, 5), -100, 0);
        faulty(x, x.put(0, 5, 0), -13, 3);
        faulty(x, x.dinner(0, 0, 0, 5, 0), SaltBorder.STATE, 0);
    }
}
