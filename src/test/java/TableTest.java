/** Promises 1 to 10: a new object, the TABLE by a TEXT, and what stands on it. */
final class TableTest {
    private static final String THREE = "t1,g31,a42,c50/02;15";
    private static final String LONGEST =
            "t3,g93,a93,c93,g93,a93,c93,g93,a93/70;09;19;29;39;49;79";

    public static void main(String[] args) {
        newObject();
        texts();
        firstFaults();
        wideCodes();
        textFaults();
        refusedTextChangesNothing();
        anew();
        ofGuest();
        minutes();
        ofDish();
        whose();
        land();
        chewCookRateCarry();
        Check.finish();
    }

    private static void newObject() {
        SaltBorder x = new SaltBorder();
        for (int what = 0; what <= 5; what++) {
            Check.due("many " + what, x.many(what), 0);
        }
        for (int k = 0; k < 4; k++) {
            Check.due("lose " + k, x.lose(k), 0);
        }
        Check.due("whose", x.whose(0), SaltBorder.UNKNOWN);
        Check.due("ofGuest", x.ofGuest(0, 9), SaltBorder.UNKNOWN);
        Check.due("ofDish", x.ofDish(0, 9), SaltBorder.UNKNOWN);
        Check.due("land", x.land(0), SaltBorder.STATE);
        Check.due("land", x.land(2), SaltBorder.UNKNOWN);
        Check.due("cook", x.cook(4), SaltBorder.OUTSIDE);
        Check.due("cook", x.cook(3), SaltBorder.STATE);
        Check.due("trace", x.trace(), 0);
        Check.due("fault", x.fault(), 0);
    }

    private static void texts() {
        Check.due("three", Check.lay(new SaltBorder(), THREE), 3);
        Check.due("six", Check.lay(new SaltBorder(), Check.SIX), 6);
        Check.due("longest", Check.lay(new SaltBorder(), LONGEST), 8);
        for (int lane = 0; lane < 3; lane++) {
            SaltBorder x = new SaltBorder();
            Check.write(x, 3, lane, 5, THREE + ",");
            Check.due("from 5", x.table(3, lane, 5, THREE.length()), 3);
            Check.due("dishes", x.many(1), 1);
            Check.due("soup", x.many(2), 1);
            Check.due("salt", x.many(3), 0);
            Check.due("pepper", x.many(4), 2);
            Check.due("one code more", x.table(3, lane, 5, THREE.length() + 1), -120);
            Check.due("from 4", x.table(3, lane, 4, THREE.length()), -100);
        }
    }

    private static void firstFaults() {
        for (int n = 0; n < THREE.length(); n++) {
            Check.due("first " + n, Check.lay(new SaltBorder(), THREE.substring(0, n)), -100 - n);
        }
        String[] wrong = {
            "T", "t4", "t/", "t1g", "t1,b", "t1,gx", "t1,g9,", "t1,g94", "t1,g93;", "t1/",
            "t1,g31/", "t1,g31,g31/", "t1,g31,g31,g31;", "t1,g31,g31,g31/3", "t1,g31,g31,g31/x",
            "t1,g31,g31,g31/00", "t1,g31,g31,g31/22", "t1,g31,g31,g31/23", "t1,g31,g31,g31/20/",
            "t1,g31,g31,g31/20;3", "t1,g31,g31,g31/20;2;", "t1,g31,g31,g31/20;29,",
            "t1,g31,g31,g31/20;29/", "t1,g31,g31,g31,g31/20;29;4",
        };
        for (String text : wrong) {
            int place = text.length() - 1;
            Check.due(text, Check.lay(new SaltBorder(), text), -100 - place);
            Check.due(text, Check.lay(new SaltBorder(), text + "0;00"), -100 - place);
        }
        String eight = LONGEST.substring(0, 34);
        Check.due("eight", Check.lay(new SaltBorder(), eight), -134);
        Check.due("ninth", Check.lay(new SaltBorder(), eight + ",g00"), -134);
        Check.due("seventh", Check.lay(new SaltBorder(), LONGEST + ";00"), -155);
        Check.due("any code more", Check.lay(new SaltBorder(), LONGEST + "0"), -155);
    }

    /** A code is the whole number: what is alike only when cut is no code. */
    private static void wideCodes() {
        for (int i = 0; i < THREE.length(); i++) {
            for (int lane = 1; lane < 3; lane++) {
                SaltBorder x = new SaltBorder();
                Check.write(x, 0, lane, 0, THREE);
                Check.due("put", x.put(0, i, THREE.charAt(i) + 256), 1);
                Check.due("code and 256 at " + i, x.table(0, lane, 0, THREE.length()), -100 - i);
                Check.due("put", x.put(0, i, Integer.MIN_VALUE + (lane == 1 ? -1 : 0)), 1);
                Check.due("far code at " + i, x.table(0, lane, 0, THREE.length()), -100 - i);
            }
        }
    }

    private static void textFaults() {
        SaltBorder x = new SaltBorder();
        Check.write(x, 0, 1, 0, THREE);
        int n = THREE.length();
        faulty(x, x.table(-1, 9, 0, -1), SaltBorder.UNKNOWN, 0);
        faulty(x, x.table(4, 1, 0, n), SaltBorder.UNKNOWN, 0);
        faulty(x, x.table(0, 0, 0, n), -12, 2);
        faulty(x, x.table(0, 3, 0, n), SaltBorder.OUTSIDE, 0);
        faulty(x, x.table(0, 2, -1, -1), -12, 2);
        faulty(x, x.table(1, -1, 0, -1), SaltBorder.OUTSIDE, 0);
        faulty(x, x.table(1, 1, 0, -1), -11, 1);
        faulty(x, x.table(0, 1, -1, -1), -14, 4);
        faulty(x, x.table(0, 1, 0, Integer.MIN_VALUE), -14, 4);
        faulty(x, x.table(0, 1, -1, 1), -13, 3);
        faulty(x, x.table(0, 1, 1, n), -13, 3);
        faulty(x, x.table(0, 1, Integer.MAX_VALUE, Integer.MAX_VALUE), -13, 3);
        faulty(x, x.table(0, 1, n, 0), -100, 0);
        faulty(x, x.table(0, 1, n + 1, 0), -13, 3);
        faulty(x, x.table(0, 1, 0, n - 1), -100 - (n - 1), 0);
        Check.due("guests", x.many(0), 0);
        faulty(x, x.table(0, 1, 0, n), 3, 0);
    }

    private static void faulty(SaltBorder x, int got, int want, int fault) {
        Check.due("table", got, want);
        Check.due("its fault", x.fault(), fault);
    }

    private static void refusedTextChangesNothing() {
        SaltBorder x = Check.laid(Check.SIX);
        Check.due("reading", x.reading(0, 5), 0);
        Check.due("refused", Check.lay(x, LONGEST + ";"), -155);
        Check.due("guests", x.many(0), 6);
        Check.due("dishes", x.many(1), 5);
        Check.due("soup", x.many(2), 2);
        Check.due("salt", x.many(3), 0);
        Check.due("pepper", x.many(4), 3);
        Check.due("readings", x.many(5), 1);
        Check.due("kind", x.ofGuest(2, 0), 2);
        Check.due("mouth", x.ofGuest(0, 1), 3);
        Check.due("worth", x.ofDish(4, 1), 3);
    }

    private static void anew() {
        SaltBorder x = Check.laid(Check.SIX);
        x.reading(0, 5);
        x.chew(0, 9);
        x.tell(0);
        Check.due("another", Check.lay(x, THREE), 3);
        Check.due("readings", x.many(5), 0);
        Check.due("seat", x.whose(3), SaltBorder.UNKNOWN);
        Check.due("dish", x.ofDish(1, 0), SaltBorder.UNKNOWN);
        Check.due("mouth", x.ofGuest(0, 1), 3);
        Check.due("trace stays", x.trace(), 1);
        Check.due("sheets stay", x.cell(0, 0, 0), 't');
        Check.due("the first again", Check.lay(x, Check.SIX), 6);
        Check.due("mouth", x.ofGuest(0, 1), 3);
    }

    private static void ofGuest() {
        SaltBorder x = Check.laid(Check.SIX);
        int[] kinds = {0, 1, 2, 0, 1, 0}, mouths = {3, 4, 9, 1, 0, 5};
        int[] arms = {1, 0, 2, 0, 3, 2}, minutes = {5, 5, 5, 3, 1, 7};
        for (int g = 0; g < 6; g++) {
            Check.due("kind", x.ofGuest(g, 0), kinds[g]);
            Check.due("mouth", x.ofGuest(g, 1), mouths[g]);
            Check.due("arm", x.ofGuest(g, 2), arms[g]);
            Check.due("minutes", x.ofGuest(g, 3), minutes[g]);
            Check.due("what 4", x.ofGuest(g, 4), SaltBorder.OUTSIDE);
            Check.due("what -1", x.ofGuest(g, -1), SaltBorder.OUTSIDE);
        }
        Check.due("guest 6", x.ofGuest(6, 0), SaltBorder.UNKNOWN);
        Check.due("guest -1", x.ofGuest(-1, 4), SaltBorder.UNKNOWN);
    }

    /** A CHILD's is half of a GUEST's, not of an AUNT's; an AUNT's is never below 0. */
    private static void minutes() {
        SaltBorder x = Check.laid("t0,g00,a00,c20/02;15");
        Check.due("guest", x.ofGuest(0, 3), 0);
        Check.due("aunt", x.ofGuest(1, 3), 0);
        Check.due("child", x.ofGuest(2, 3), 1);
        x.cook(1);
        Check.due("guest", x.ofGuest(0, 3), 1);
        Check.due("aunt", x.ofGuest(1, 3), 0);
        Check.due("child", x.ofGuest(2, 3), 1);
        x.cook(2);
        Check.due("aunt", x.ofGuest(1, 3), 1);
        Check.due("child", x.ofGuest(2, 3), 2);
        x.cook(3);
        x.chew(0, 9);
        Check.due("guest", x.ofGuest(0, 3), 12);
    }

    private static void ofDish() {
        SaltBorder x = Check.laid(Check.SIX);
        int[] seats = {1, 2, 4, 5, 0}, worths = {4, 7, 3, 2, 3}, owners = {0, 0, 1, 1, -9};
        for (int d = 0; d < 5; d++) {
            Check.due("seat", x.ofDish(d, 0), seats[d]);
            Check.due("worth", x.ofDish(d, 1), worths[d]);
            Check.due("whose", x.ofDish(d, 2), owners[d]);
            Check.due("what 3", x.ofDish(d, 3), SaltBorder.OUTSIDE);
            Check.due("what -1", x.ofDish(d, -1), SaltBorder.OUTSIDE);
        }
        Check.due("dish 5", x.ofDish(5, 3), SaltBorder.UNKNOWN);
        Check.due("dish -1", x.ofDish(-1, 0), SaltBorder.UNKNOWN);
    }

    private static void whose() {
        String guests = "t0,g00,g00,g00,g00";
        owners("/13;00", guests, new int[] {1, -9, 0, -9});
        owners("/31;00", guests, new int[] {0, -9, 1, -9});
        owners("/01;00", guests, new int[] {-9, -9, 1, 1});
        owners("/10;00", guests, new int[] {-9, -9, 0, 0});
        owners("/03;00", guests, new int[] {-9, 0, 0, -9});
        owners("/30;00", guests, new int[] {-9, 1, 1, -9});
        SaltBorder x = Check.laid(guests + "/01;00");
        Check.due("seat 4", x.whose(4), SaltBorder.UNKNOWN);
        Check.due("seat -1", x.whose(-1), SaltBorder.UNKNOWN);
    }

    private static void owners(String border, String guests, int[] want) {
        SaltBorder x = Check.laid(guests + border);
        for (int seat = 0; seat < want.length; seat++) {
            Check.due(border + " seat " + seat, x.whose(seat), want[seat]);
        }
    }

    private static void land() {
        SaltBorder x = Check.laid(Check.SIX);
        Check.due("land 0", x.land(0), 11);
        Check.due("land 1", x.land(1), 5);
        Check.due("land 2", x.land(2), SaltBorder.UNKNOWN);
        Check.due("land -1", x.land(-1), SaltBorder.UNKNOWN);
        SaltBorder all = Check.laid("t0,g00,g00,g00/02;19;19;19;19;19;19");
        Check.due("all land", all.land(0), 54);
        Check.due("no land", all.land(1), 0);
    }

    private static void chewCookRateCarry() {
        SaltBorder x = Check.laid(Check.SIX);
        Check.due("chew", x.chew(0, 9), 3);
        Check.due("chew", x.chew(0, 10), SaltBorder.OUTSIDE);
        Check.due("chew", x.chew(0, -1), SaltBorder.OUTSIDE);
        Check.due("chew", x.chew(6, -1), SaltBorder.UNKNOWN);
        Check.due("chew", x.chew(-1, 0), SaltBorder.UNKNOWN);
        Check.due("chew", x.chew(0, 0), 9);
        Check.due("mouth", x.ofGuest(0, 1), 0);
        Check.due("cook", x.cook(3), 2);
        Check.due("cook", x.cook(4), SaltBorder.OUTSIDE);
        Check.due("cook", x.cook(-1), SaltBorder.OUTSIDE);
        Check.due("cook", x.cook(0), 3);
        Check.due("soup", x.many(2), 0);
        Check.due("rate", x.rate(1, 9), 7);
        Check.due("rate", x.rate(1, 10), SaltBorder.OUTSIDE);
        Check.due("rate", x.rate(1, -1), SaltBorder.OUTSIDE);
        Check.due("rate", x.rate(5, -1), SaltBorder.UNKNOWN);
        Check.due("rate", x.rate(1, 0), 9);
        Check.due("land", x.land(0), 4);
        Check.due("carry", x.carry(0, 5), 1);
        Check.due("carry", x.carry(0, 6), SaltBorder.UNKNOWN);
        Check.due("carry", x.carry(5, 0), SaltBorder.UNKNOWN);
        Check.due("carry", x.carry(0, -1), SaltBorder.UNKNOWN);
        Check.due("carry", x.carry(-1, 0), SaltBorder.UNKNOWN);
        Check.due("carry", x.carry(0, 0), 5);
        Check.due("whose", x.ofDish(0, 2), SaltBorder.NONE);
        Check.due("land", x.land(0), 0);
        Check.due("land", x.land(1), 5);
    }
}
