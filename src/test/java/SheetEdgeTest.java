/** Part 5 and promises 24 to 28 and 33, edge by edge. */
final class SheetEdgeTest {
    private static final int UNKNOWN = SaltBorder.UNKNOWN, OUTSIDE = SaltBorder.OUTSIDE;
    private static final long LOST = SaltBorder.LOST;
    private static final int MIN = Integer.MIN_VALUE, MAX = Integer.MAX_VALUE;

    public static void main(String[] args) {
        fourSheets();
        emptyRow();
        fullRow();
        newRow();
        refusedSheetKeepsItsRow();
        loseTwice();
        cutToItsLane();
        everyCellIsItsOwn();
        copyNone();
        copyAll();
        copyOntoItself();
        copyNeedsBoth();
        copyKeepsLanes();
        faultAheadOfAny();
        faultStays();
        faultOfEachCall();
        Check.finish();
    }

    private static void due(SaltBorder x, String what, long got, long want, int fault) {
        Check.due(what, got, want);
        Check.due(what + ": fault", x.fault(), fault);
    }

    /** "SHEETS 0 .. 3", "LANE: 0 bytes, 1 shorts, 2 ints": each SHEET has its own row. */
    private static void fourSheets() {
        SaltBorder x = new SaltBorder();
        for (int k = 0; k < 4; k++) {
            due(x, "sheet", x.sheet(k, k % 3, k + 1), 1, 0);
            due(x, "put", x.put(k, k, 10 + k), 1, 0);
        }
        for (int k = 0; k < 4; k++) {
            due(x, "its last cell", x.cell(k, k, k % 3), 10 + k, 0);
            due(x, "the one beyond", x.cell(k, k + 1, k % 3), LOST, 3);
            due(x, "of another lane", x.cell(k, k, (k + 1) % 3), LOST, 2);
        }
        for (int k : new int[] {-1, 4, MIN, MAX}) {
            due(x, "no such sheet", x.sheet(k, 0, 1), UNKNOWN, 0);
            due(x, "no such sheet", x.put(k, 0, 1), UNKNOWN, 0);
            due(x, "no such sheet", x.cell(k, 0, 0), LOST, 0);
            due(x, "no such sheet", x.copy(k, 0, 0, 0, 0), UNKNOWN, 0);
            due(x, "no such sheet", x.copy(0, 0, k, 0, 0), UNKNOWN, 0);
            Check.due("no such sheet", x.lose(k), UNKNOWN);
        }
    }

    /** "a row of 0 .. 60 numbers": one of none is there, but has no cell. */
    private static void emptyRow() {
        for (int lane = 0; lane < 3; lane++) {
            SaltBorder x = new SaltBorder();
            due(x, "sheet", x.sheet(0, lane, 0), 1, 0);
            due(x, "put", x.put(0, 0, 1), -13, 3);
            due(x, "put", x.put(0, -1, 1), -13, 3);
            due(x, "cell", x.cell(0, 0, lane), LOST, 3);
            due(x, "copy none", x.copy(0, 0, 0, 0, 0), 0, 0);
            due(x, "copy one", x.copy(0, 0, 0, 0, 1), -13, 3);
            due(x, "copy none from 1", x.copy(0, 1, 0, 0, 0), -13, 3);
            Check.due("it is there", x.lose(0), 1);
        }
    }

    private static void fullRow() {
        for (int lane = 0; lane < 3; lane++) {
            SaltBorder x = new SaltBorder();
            due(x, "sixty-one", x.sheet(0, lane, 61), OUTSIDE, 0);
            due(x, "the most", x.sheet(0, lane, MAX), OUTSIDE, 0);
            Check.due("still nothing", x.lose(0), 0);
            due(x, "sixty", x.sheet(0, lane, 60), 1, 0);
            for (int i = 0; i < 60; i++) {
                Check.due("0 at first", x.cell(0, i, lane), 0);
                Check.due("put", x.put(0, i, i - 30), 1);
            }
            for (int i = 0; i < 60; i++) {
                Check.due("cell " + i, x.cell(0, i, lane), i - 30);
            }
            due(x, "beyond", x.put(0, 60, 1), -13, 3);
            due(x, "beyond", x.cell(0, 60, lane), LOST, 3);
            due(x, "ahead", x.put(0, -1, 1), -13, 3);
            due(x, "ahead", x.cell(0, -1, lane), LOST, 3);
        }
    }

    /** "A SHEET gets a new row": longer, shorter, of another LANE; all of it is 0 at first. */
    private static void newRow() {
        SaltBorder x = new SaltBorder();
        int[] lengths = {5, 3, 8, 8, 1};
        for (int k = 0; k < lengths.length; k++) {
            int lane = k % 3, n = lengths[k];
            due(x, "sheet", x.sheet(2, lane, n), 1, 0);
            for (int i = 0; i < n; i++) {
                due(x, "0 at first", x.cell(2, i, lane), 0, 0);
                x.put(2, i, 7);
            }
            due(x, "beyond", x.cell(2, n, lane), LOST, 3);
            due(x, "the lane that it was", x.cell(2, 0, (lane + 2) % 3), LOST, 2);
        }
    }

    private static void refusedSheetKeepsItsRow() {
        SaltBorder x = new SaltBorder();
        Made.fill(x, 0, 1, 5, 6);
        due(x, "lane 3", x.sheet(0, 3, 1), OUTSIDE, 0);
        due(x, "lane -1", x.sheet(0, -1, 1), OUTSIDE, 0);
        due(x, "sixty-one", x.sheet(0, 0, 61), OUTSIDE, 0);
        due(x, "below 0", x.sheet(0, 0, -1), -14, 4);
        due(x, "the least", x.sheet(0, 0, MIN), -14, 4);
        due(x, "lane, then below 0", x.sheet(0, 3, -1), OUTSIDE, 0);
        due(x, "its lane and cells", x.cell(0, 1, 1), 6, 0);
        due(x, "its length", x.cell(0, 2, 1), LOST, 3);
    }

    /** "A SHEET has nothing: 1; 0: it had nothing". */
    private static void loseTwice() {
        SaltBorder x = new SaltBorder();
        Made.fill(x, 0, 0, 1);
        Made.fill(x, 1, 0, 2);
        Check.due("lost", x.lose(0), 1);
        Check.due("lost already", x.lose(0), 0);
        for (int lane = 0; lane < 3; lane++) {
            due(x, "nothing", x.cell(0, 0, lane), LOST, 1);
        }
        due(x, "nothing", x.put(0, 0, 1), -11, 1);
        due(x, "nothing", x.table(0, 0, 0, 1), -11, 1);
        due(x, "nothing", x.dinner(0, 0, 0, 1, 0), -11, 1);
        due(x, "the other stays", x.cell(1, 0, 0), 2, 0);
        due(x, "a new row", x.sheet(0, 2, 1), 1, 0);
        due(x, "of 0", x.cell(0, 0, 2), 0, 0);
    }

    /** "what comes to a cell of it is cut to its LANE". */
    private static void cutToItsLane() {
        long[][] bytes = {{127, 127}, {128, -128}, {-128, -128}, {-129, 127}, {255, -1}, {256, 0}, {MIN, 0}, {MAX, -1}};
        long[][] shorts = {{32767, 32767}, {32768, -32768}, {-32768, -32768}, {-32769, 32767}, {65535, -1},
            {65536, 0}, {128, 128}, {-129, -129}, {MIN, 0}, {MAX, -1}};
        long[][] ints = {{MAX, MAX}, {MIN, MIN}, {65536, 65536}, {-32769, -32769}, {128, 128}, {-1, -1}};
        long[][][] all = {bytes, shorts, ints};
        for (int lane = 0; lane < 3; lane++) {
            SaltBorder x = new SaltBorder();
            x.sheet(3, lane, 1);
            for (long[] pair : all[lane]) {
                due(x, "put", x.put(3, 0, (int) pair[0]), 1, 0);
                due(x, pair[0] + " in lane " + lane, x.cell(3, 0, lane), pair[1], 0);
            }
        }
    }

    private static void everyCellIsItsOwn() {
        SaltBorder x = new SaltBorder();
        x.sheet(0, 2, 4);
        x.put(0, 0, 5);
        x.put(0, 3, 8);
        row(x, 0, 2, 5, 0, 0, 8);
        due(x, "refused", x.put(0, 4, 9), -13, 3);
        due(x, "refused", x.put(0, -1, 9), -13, 3);
        row(x, 0, 2, 5, 0, 0, 8);
    }

    private static void row(SaltBorder x, int k, int lane, int... want) {
        for (int i = 0; i < want.length; i++) {
            due(x, "cell " + i, x.cell(k, i, lane), want[i], 0);
        }
        due(x, "its end", x.cell(k, want.length, lane), LOST, 3);
    }

    /** n 0: from 0 up to behind the last cell, on both sides. */
    private static void copyNone() {
        SaltBorder x = new SaltBorder();
        Made.fill(x, 0, 0, 1, 2, 3);
        Made.fill(x, 1, 0, 4, 5);
        for (int i = -1; i <= 4; i++) {
            for (int j = -1; j <= 3; j++) {
                boolean isThere = i >= 0 && i <= 3 && j >= 0 && j <= 2;
                due(x, "none from " + i + " to " + j, x.copy(0, i, 1, j, 0), isThere ? 0 : -13, isThere ? 0 : 3);
            }
        }
        row(x, 0, 0, 1, 2, 3);
        row(x, 1, 0, 4, 5);
    }

    private static void copyAll() {
        SaltBorder x = new SaltBorder();
        x.sheet(0, 1, 60);
        x.sheet(3, 1, 60);
        for (int i = 0; i < 60; i++) {
            x.put(0, i, 1000 + i);
        }
        due(x, "all", x.copy(0, 0, 3, 0, 60), 60, 0);
        for (int i = 0; i < 60; i++) {
            Check.due("cell", x.cell(3, i, 1), 1000 + i);
        }
        due(x, "one too many", x.copy(0, 0, 3, 0, 61), -13, 3);
        due(x, "one behind", x.copy(0, 1, 3, 0, 60), -13, 3);
        due(x, "one behind", x.copy(0, 0, 3, 1, 60), -13, 3);
        due(x, "the last to the first", x.copy(0, 59, 3, 0, 1), 1, 0);
        due(x, "the first to the last", x.copy(0, 0, 3, 59, 1), 1, 0);
        Check.due("the first", x.cell(3, 0, 1), 1059);
        Check.due("the last", x.cell(3, 59, 1), 1000);
        Check.due("it is a copy", x.put(0, 1, 7), 1);
        Check.due("it is a copy", x.cell(3, 1, 1), 1001);
    }

    /** "another one (perhaps the same) .. as they were": both ways, by one and by more. */
    private static void copyOntoItself() {
        for (int i = 0; i <= 5; i++) {
            for (int j = 0; j <= 5; j++) {
                for (int n = 0; n <= 5 - Math.max(i, j); n++) {
                    SaltBorder x = new SaltBorder();
                    int[] want = {1, 2, 3, 4, 5};
                    Made.fill(x, 0, 2, want);
                    due(x, "copy", x.copy(0, i, 0, j, n), n, 0);
                    for (int k = 0; k < n; k++) {
                        want[j + k] = i + k + 1;
                    }
                    row(x, 0, 2, want);
                }
            }
        }
    }

    /** "NULL (the first, the other)": none is taken for an empty row. */
    private static void copyNeedsBoth() {
        SaltBorder x = new SaltBorder();
        due(x, "both", x.copy(0, 0, 1, 0, 0), -11, 1);
        due(x, "both the same", x.copy(0, 0, 0, 0, 0), -11, 1);
        x.sheet(0, 0, 1);
        due(x, "the other", x.copy(0, 0, 1, 0, 0), -11, 1);
        due(x, "the first", x.copy(1, 0, 0, 0, 0), -11, 1);
        due(x, "ahead of index", x.copy(1, -1, 0, 9, -1), -11, 1);
        x.sheet(1, 2, 1);
        x.lose(1);
        due(x, "lost, whatever lane it had", x.copy(0, 0, 1, 0, 0), -11, 1);
    }

    private static void copyKeepsLanes() {
        for (int lane = 0; lane < 3; lane++) {
            for (int other = 0; other < 3; other++) {
                SaltBorder x = new SaltBorder();
                Made.fill(x, 0, lane, -5);
                Made.fill(x, 1, other, 9);
                boolean isAlike = lane == other;
                due(x, "one", x.copy(0, 0, 1, 0, 1), isAlike ? 1 : -12, isAlike ? 0 : 2);
                due(x, "cell", x.cell(1, 0, other), isAlike ? -5 : 9, 0);
                due(x, "none", x.copy(0, 0, 1, 0, 0), isAlike ? 0 : -12, isAlike ? 0 : 2);
                due(x, "beyond", x.copy(0, 5, 1, 0, 0), isAlike ? -13 : -12, isAlike ? 3 : 2);
            }
        }
    }

    /** "(0 ahead of any)". */
    private static void faultAheadOfAny() {
        SaltBorder x = new SaltBorder();
        Check.due("at first", x.fault(), 0);
        x.many(9);
        x.land(9);
        x.lose(9);
        Check.due("still", x.fault(), 0);
    }

    /** "The FAULT of the latest call that names one": the others leave it, taken or refused. */
    private static void faultStays() {
        SaltBorder x = Made.laid();
        x.ofGuest(0, 0);
        x.ofDish(0, 0);
        x.whose(0);
        x.land(0);
        x.chew(0, 1);
        x.cook(1);
        x.rate(0, 1);
        x.carry(0, 1);
        x.pass(0);
        x.ask(0, 0, 0);
        x.treaty(0);
        x.game(0, 1, 0);
        x.spilt(0);
        x.home(0);
        x.reading(0, 1);
        x.back(1);
        x.mouths(0);
        x.kinds(0);
        x.soups();
        x.odds(0, 0, 0, 0);
        x.lose(0);
        x.tell(0);
        x.toast(0);
        x.trace();
        x.many(0);
        Check.due("it stays", x.fault(), Made.LEFT_FAULT);
        Check.due("and is not taken away", x.fault(), Made.LEFT_FAULT);
    }

    /** "0: it came to none, or was refused". */
    private static void faultOfEachCall() {
        due("table", x -> x.table(0, 0, 0, 44), x -> x.table(4, 0, 0, 44), x -> x.table(0, 1, 0, 44), 2);
        due("a wrong text", x -> x.table(0, 0, 0, 43), x -> x.table(0, 3, 0, 43), x -> x.table(0, 0, 0, 45), 3);
        due("dinner", x -> x.dinner(2, 2, 0, 2, 0), x -> x.dinner(2, 2, 0, 7, 0), x -> x.dinner(3, 2, 0, 2, 0), 1);
        due("a wrong dinner", x -> x.dinner(2, 2, 0, 4, 0), x -> x.dinner(2, 2, 0, 4, 6), x -> x.dinner(2, 2, 8, 1, 0), 3);
        due("sheet", x -> x.sheet(0, 0, 0), x -> x.sheet(0, 0, 61), x -> x.sheet(0, 0, -1), 4);
        due("put", x -> x.put(0, 43, 0), x -> x.put(4, 0, 0), x -> x.put(0, 44, 0), 3);
        due("cell", x -> x.cell(0, 43, 0), x -> x.cell(0, 0, 3), x -> x.cell(0, 0, 2), 2);
        due("copy", x -> x.copy(0, 0, 0, 1, 1), x -> x.copy(0, 0, 4, 0, 1), x -> x.copy(0, 0, 1, 0, 1), 2);
        due("as", x -> x.as(0, 0), x -> x.as(0, 3), x -> x.as(0, 1), 2);
    }

    private interface Call {
        long on(SaltBorder x);
    }

    private static void due(String what, Call taken, Call refused, Call faulty, int fault) {
        SaltBorder x = Made.laid();
        refused.on(x);
        Check.due(what + " refused", x.fault(), 0);
        faulty.on(x);
        Check.due(what + " faulty", x.fault(), fault);
        taken.on(x);
        Check.due(what + " taken", x.fault(), 0);
        faulty.on(x);
        refused.on(x);
        Check.due(what + " refused again", x.fault(), 0);
    }
}
