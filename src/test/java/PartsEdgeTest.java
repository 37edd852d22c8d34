/** Part 5 and promises 29 to 32 and 34, edge by edge. */
final class PartsEdgeTest {
    private static final int UNKNOWN = SaltBorder.UNKNOWN, OUTSIDE = SaltBorder.OUTSIDE;

    public static void main(String[] args) {
        tellByKindAndMouth();
        tellLeavesItsBodies();
        tellIsOfTheMouthNow();
        toastByKind();
        toastOfEachNumber();
        traceWraps();
        traceIsLeftByThemAlone();
        refusedLeaveNothing();
        asEachKind();
        asLeavesTheGuestAsTheyAre();
        manyWithoutTable();
        manyOfFewestAndMost();
        manyByWhatIsDone();
        Check.finish();
    }

    private static int left(int trace, int... bodies) {
        for (int body : bodies) {
            trace = (int) (31L * trace + body);
        }
        return trace;
    }

    /** GUEST "MOUTH", AUNT "and 100", CHILD "what AUNT's gives, and what GUEST's gives". */
    private static void tellByKindAndMouth() {
        SaltBorder x = Check.laid("t3,g00,a00,c00/01;00");
        for (int mouth = 0; mouth < 10; mouth++) {
            for (int g = 0; g < 3; g++) {
                x.chew(g, mouth);
            }
            Check.due("guest", x.tell(0), mouth);
            Check.due("aunt", x.tell(1), mouth + 100);
            Check.due("child", x.tell(2), mouth + 100 + mouth);
        }
    }

    /** "bodies that leave their number in TRACE .. as they begin". */
    private static void tellLeavesItsBodies() {
        int[][] bodies = {{1}, {2, 1}, {3, 2, 1, 1}};
        for (int g = 0; g < 3; g++) {
            SaltBorder x = Check.laid("t0,g40,a40,c40/01;00");
            x.tell(g);
            Check.due("once", x.trace(), left(0, bodies[g]));
            x.tell(g);
            Check.due("twice", x.trace(), left(left(0, bodies[g]), bodies[g]));
        }
    }

    private static void tellIsOfTheMouthNow() {
        SaltBorder x = Made.laid();
        Check.due("guest", x.tell(0), 3);
        x.chew(0, 9);
        Check.due("guest", x.tell(0), 9);
        Check.due("child", x.tell(2), 118);
        x.chew(2, 0);
        Check.due("child", x.tell(2), 100);
    }

    /** "by a lent body (4): their number; CHILDREN have their own (5): 20". */
    private static void toastByKind() {
        int[] want = {0, 1, 20}, body = {4, 4, 5};
        for (int g = 0; g < 3; g++) {
            SaltBorder x = Check.laid("t0,g40,a40,c40/01;00");
            Check.due("toast", x.toast(g), want[g]);
            Check.due("its body", x.trace(), body[g]);
        }
    }

    private static void toastOfEachNumber() {
        SaltBorder x = Check.laid("t0,g00,g00,g00,g00,a00,a00,a00,a00/01;00");
        for (int g = 0; g < 8; g++) {
            Check.due("their number", x.toast(g), g);
        }
        SaltBorder children = Check.laid("t0,c00,c00,c00,c00,c00,c00,c00,c00/01;00");
        for (int g = 0; g < 8; g++) {
            Check.due("a child", children.toast(g), 20);
        }
    }

    /** "an int that wraps": beyond the most, and beyond the least. */
    private static void traceWraps() {
        SaltBorder x = Made.laid();
        int trace = x.trace();
        boolean isBelow = false, isAbove = false;
        for (int k = 0; k < 200; k++) {
            x.toast(0);
            trace = left(trace, 4);
            Check.due("trace", x.trace(), trace);
            isBelow |= trace < 0;
            isAbove |= isBelow && trace > 0;
        }
        Check.isSo("it has wrapped both ways", isBelow && isAbove);
    }

    private static void traceIsLeftByThemAlone() {
        SaltBorder x = Made.laid();
        int trace = left(0, 3, 2, 1, 1);
        Check.due("trace", x.trace(), trace);
        x.as(2, 0);
        x.as(0, 2);
        x.ofGuest(2, 3);
        x.pass(0);
        x.dinner(2, 2, 0, 2, 0);
        x.mouths(0);
        x.reading(0, 0);
        Check.due("the others leave nothing", x.trace(), trace);
        x.tell(3);
        x.toast(1);
        x.toast(2);
        Check.due("these do", x.trace(), left(trace, 1, 4, 5));
        Check.due("a text does not", x.table(0, 0, 0, 44), 6);
        Check.due("it stays", x.trace(), left(trace, 1, 4, 5));
    }

    private static void refusedLeaveNothing() {
        SaltBorder x = Made.laid();
        int trace = x.trace();
        for (int g : new int[] {-1, 6, Integer.MIN_VALUE, Integer.MAX_VALUE}) {
            Check.due("tell", x.tell(g), UNKNOWN);
            Check.due("toast", x.toast(g), UNKNOWN);
            Check.due("trace", x.trace(), trace);
        }
        SaltBorder none = new SaltBorder();
        Check.due("tell", none.tell(0), UNKNOWN);
        Check.due("toast", none.toast(0), UNKNOWN);
        Check.due("trace", none.trace(), 0);
    }

    /** "CAST: they are none (each is a GUEST, too; a CHILD is an AUNT)". */
    private static void asEachKind() {
        SaltBorder x = Check.laid("t0,g00,a00,c00/01;00");
        int[][] want = {{1, -12, -12}, {1, 1, -12}, {1, 1, 1}};
        for (int g = 0; g < 3; g++) {
            for (int kind = 0; kind < 3; kind++) {
                Check.due(g + " as " + kind, x.as(g, kind), want[g][kind]);
                Check.due("its fault", x.fault(), want[g][kind] == 1 ? 0 : 2);
            }
            for (int kind : new int[] {-1, 3, Integer.MIN_VALUE, Integer.MAX_VALUE}) {
                Check.due(g + " as " + kind, x.as(g, kind), OUTSIDE);
                Check.due("its fault", x.fault(), 0);
            }
        }
        Check.due("no guest", x.as(3, 0), UNKNOWN);
        Check.due("no guest", x.as(-1, 3), UNKNOWN);
        Check.due("no table", new SaltBorder().as(0, 3), UNKNOWN);
    }

    private static void asLeavesTheGuestAsTheyAre() {
        SaltBorder x = Made.laid();
        for (int g = 0; g < 6; g++) {
            for (int kind = 0; kind < 3; kind++) {
                x.as(g, kind);
            }
        }
        Check.isSo("nothing is changed", Made.told(x).equals(Made.told(Made.laid())));
    }

    /** "(0 all without a TABLE)". */
    private static void manyWithoutTable() {
        SaltBorder x = Made.bare();
        for (int what = 0; what <= 5; what++) {
            Check.due("many " + what, x.many(what), 0);
        }
        for (int what : new int[] {-1, 6, Integer.MIN_VALUE, Integer.MAX_VALUE}) {
            Check.due("many " + what, x.many(what), OUTSIDE);
        }
        x.table(0, 0, 0, 43);
        for (int what = 0; what <= 5; what++) {
            Check.due("behind a wrong text", x.many(what), 0);
        }
    }

    private static void many(SaltBorder x, int... want) {
        for (int what = 0; what < 6; what++) {
            Check.due("many " + what, x.many(what), want[what]);
        }
    }

    private static void manyOfFewestAndMost() {
        many(Check.laid("t0,g00,g00,g00/01;00"), 3, 1, 0, 0, 1, 0);
        SaltBorder x = Check.laid("t3,g00,g00,g00,g00,g00,g00,g00,g00/76;00;00;00;00;00;00");
        many(x, 8, 6, 3, 7, 6, 0);
        for (int k = 1; k <= 8; k++) {
            x.reading(0, 0);
            many(x, 8, 6, 3, 7, 6, k);
        }
    }

    private static void manyByWhatIsDone() {
        SaltBorder x = Made.laid();
        many(x, 6, 5, 2, 1, 3, 2);
        x.pass(0);
        x.pass(0);
        x.pass(3);
        x.cook(0);
        x.back(1);
        many(x, 6, 5, 0, 5, 4, 1);
    }
}
