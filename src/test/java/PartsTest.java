/** Promises 29 to 34: TELLING, TOASTED, kinds that GUESTS are taken as, TRACE, FAULT, how many. */
final class PartsTest {
    public static void main(String[] args) {
        tell();
        toast();
        traceWraps();
        as();
        many();
        Check.finish();
    }

    private static int traceOf(int before, int... bodies) {
        int trace = before;
        for (int body : bodies) {
            trace = 31 * trace + body;
        }
        return trace;
    }

    private static void tell() {
        SaltBorder x = Check.laid(Check.SIX);
        Check.due("guest", x.tell(0), 3);
        int trace = traceOf(0, 1);
        Check.due("trace", x.trace(), trace);
        Check.due("aunt", x.tell(1), 104);
        trace = traceOf(trace, 2, 1);
        Check.due("trace", x.trace(), trace);
        Check.due("child", x.tell(2), 118);
        trace = traceOf(trace, 3, 2, 1, 1);
        Check.due("trace", x.trace(), trace);
        Check.due("nobody", x.tell(6), SaltBorder.UNKNOWN);
        Check.due("nobody", x.tell(-1), SaltBorder.UNKNOWN);
        Check.due("trace", x.trace(), trace);
        x.chew(2, 0);
        Check.due("child", x.tell(2), 100);
        Check.due("no table", new SaltBorder().tell(0), SaltBorder.UNKNOWN);
    }

    private static void toast() {
        SaltBorder x = Check.laid(Check.SIX);
        Check.due("guest", x.toast(5), 5);
        Check.due("aunt", x.toast(4), 4);
        Check.due("child", x.toast(2), 20);
        Check.due("guest", x.toast(0), 0);
        int trace = traceOf(0, 4, 4, 5, 4);
        Check.due("trace", x.trace(), trace);
        Check.due("nobody", x.toast(6), SaltBorder.UNKNOWN);
        Check.due("nobody", x.toast(-1), SaltBorder.UNKNOWN);
        Check.due("trace", x.trace(), trace);
        Check.due("no table", new SaltBorder().toast(0), SaltBorder.UNKNOWN);
    }

    private static void traceWraps() {
        SaltBorder x = Check.laid(Check.SIX);
        int trace = 0;
        for (int k = 0; k < 40; k++) {
            x.tell(2);
            trace = traceOf(trace, 3, 2, 1, 1);
            Check.due("trace", x.trace(), trace);
        }
    }

    private static void as() {
        SaltBorder x = Check.laid(Check.SIX);
        for (int g = 0; g < 3; g++) {
            for (int kind = 0; kind < 3; kind++) {
                Check.due(g + " as " + kind, x.as(g, kind), kind <= g ? 1 : -12);
                Check.due("its fault", x.fault(), kind <= g ? 0 : 2);
            }
        }
        Check.due("cast", x.as(0, 2), -12);
        Check.due("guest", x.as(6, 3), SaltBorder.UNKNOWN);
        Check.due("fault", x.fault(), 0);
        Check.due("guest", x.as(-1, 0), SaltBorder.UNKNOWN);
        Check.due("cast", x.as(0, 1), -12);
        Check.due("kind", x.as(0, 3), SaltBorder.OUTSIDE);
        Check.due("fault", x.fault(), 0);
        Check.due("kind", x.as(0, -1), SaltBorder.OUTSIDE);
    }

    private static void many() {
        SaltBorder x = Check.laid(Check.SIX);
        x.pass(1);
        x.pass(3);
        x.reading(0, 1);
        int[] want = {6, 5, 2, 1, 4, 1};
        for (int what = 0; what < 6; what++) {
            Check.due("many " + what, x.many(what), want[what]);
        }
        Check.due("many 6", x.many(6), SaltBorder.OUTSIDE);
        Check.due("many -1", x.many(-1), SaltBorder.OUTSIDE);
        Check.due("many", new SaltBorder().many(6), SaltBorder.OUTSIDE);
    }
}
