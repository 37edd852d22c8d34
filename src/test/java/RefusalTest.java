/**
 * "REFUSALS, in the order in which a call's line tells them .. they change nothing (but fault(), of a
 * call that names FAULTS)"; "Of a call the first that is come to, in the order told; it answers -10
 * less it (LOST, where a long is answered, as for refusals) and changes nothing; fault() tells it".
 * Every call of the face that can be refused is here, with the last numbers that are taken and the
 * first that are not.
 */
final class RefusalTest {
    private static final int UNKNOWN = SaltBorder.UNKNOWN, OUTSIDE = SaltBorder.OUTSIDE;
    private static final int STATE = SaltBorder.STATE, FULL = SaltBorder.FULL;
    private static final long LOST = SaltBorder.LOST;
    private static final int NULL = 1, CAST = 2, INDEX = 3, SIZE = 4;
    private static final int MIN = Integer.MIN_VALUE, MAX = Integer.MAX_VALUE;

    public static void main(String[] args) {
        theTable();
        theTableChanged();
        text();
        requests();
        dinner();
        howToAsk();
        howLongItTook();
        sheets();
        cells();
        copy();
        parts();
        Check.finish();
    }

    private static void theTable() {
        Order.of("ofGuest", (x, a) -> x.ofGuest(a[0], a[1]), 0, 0)
                .range(UNKNOWN, 0, 0, 5).made(UNKNOWN, Made::bare).range(OUTSIDE, 1, 0, 3).holds(0);
        Order.of("ofDish", (x, a) -> x.ofDish(a[0], a[1]), 0, 0)
                .range(UNKNOWN, 0, 0, 4).made(UNKNOWN, Made::bare).range(OUTSIDE, 1, 0, 2).holds(1);
        Order.of("whose", (x, a) -> x.whose(a[0]), 2)
                .range(UNKNOWN, 0, 0, 5).made(UNKNOWN, Made::bare).holds(0);
        Order.of("land", (x, a) -> x.land(a[0]), 1)
                .range(UNKNOWN, 0, 0, 1).made(STATE, Made::bare).holds(8);
    }

    private static void theTableChanged() {
        Order.of("chew", (x, a) -> x.chew(a[0], a[1]), 0, 9)
                .range(UNKNOWN, 0, 0, 5).made(UNKNOWN, Made::bare).range(OUTSIDE, 1, 0, 9).holds(3);
        Order.of("cook", (x, a) -> x.cook(a[0]), 3)
                .range(OUTSIDE, 0, 0, 3).made(STATE, Made::bare).holds(2);
        Order.of("rate", (x, a) -> x.rate(a[0], a[1]), 0, 9)
                .range(UNKNOWN, 0, 0, 4).made(UNKNOWN, Made::bare).range(OUTSIDE, 1, 0, 9).holds(4);
        Order.of("carry", (x, a) -> x.carry(a[0], a[1]), 0, 5)
                .range(UNKNOWN, 0, 0, 4).range(UNKNOWN, 1, 0, 5).made(UNKNOWN, Made::bare).holds(1);
    }

    /** "CAST (nothing is no CAST), NULL, SIZE: n is below 0, INDEX: not all cells are there". */
    private static void text() {
        Order.namingFaults("table", (x, a) -> x.table(a[0], a[1], a[2], a[3]), 0, 0, 0, 44)
                .range(UNKNOWN, 0, 0, 3)
                .range(OUTSIDE, 1, 0, 2)
                .fault(-12, CAST, 0, 0, 1, 1).fault(-12, CAST, 0, 0, 1, 2)
                .fault(-12, CAST, 0, 1, 1, 0).fault(-12, CAST, 0, 1, 1, 2)
                .fault(-12, CAST, 0, 2, 1, 0).fault(-12, CAST, 0, 2, 1, 1)
                .fault(-11, NULL, 0, 3, 1, 0).fault(-11, NULL, 0, 3, 1, 1).fault(-11, NULL, 0, 3, 1, 2)
                .fault(-14, SIZE, 3, -1).fault(-14, SIZE, 3, MIN)
                .fault(-13, INDEX, 2, -1, 3, 1).fault(-13, INDEX, 2, -1, 3, 0)
                .fault(-13, INDEX, 2, 0, 3, 45).fault(-13, INDEX, 2, 1, 3, 44)
                .fault(-13, INDEX, 2, 44, 3, 1).fault(-13, INDEX, 2, 45, 3, 0)
                .fault(-13, INDEX, 2, MAX, 3, MAX).fault(-13, INDEX, 2, MIN, 3, MAX)
                .fault(-13, INDEX, 2, 1, 3, MAX).fault(-13, INDEX, 2, MIN, 3, 0)
                .with(-100, 2, 0, 3, 0).with(-100, 2, 44, 3, 0).with(-100, 2, 1, 3, 43)
                .with(-143, 2, 0, 3, 43)
                .holds(6);
    }

    private static void requests() {
        Order.of("pass", (x, a) -> x.pass(a[0]), 0)
                .range(OUTSIDE, 0, 0, 3).made(STATE, Made::bare)
                .made(STATE, Made::touching, 0, 1).made(STATE, Made::touching, 0, 2).holds(5);
    }

    /** "FAULTS CAST, NULL, INDEX; STATE: there is no TABLE; OUTSIDE: a cell is no REQUEST 0 .. 3". */
    private static void dinner() {
        Order.namingFaults("dinner", (x, a) -> x.dinner(a[0], a[1], a[2], a[3], a[4]), 2, 2, 0, 2, 0)
                .range(UNKNOWN, 0, 0, 3)
                .range(OUTSIDE, 1, 0, 2).range(OUTSIDE, 3, 0, 40)
                .range(OUTSIDE, 4, 0, 5).range(OUTSIDE, 4, 10, 15)
                .fault(-12, CAST, 0, 0, 1, 2).fault(-12, CAST, 0, 1, 1, 2)
                .fault(-12, CAST, 0, 2, 1, 0).fault(-12, CAST, 0, 2, 1, 1)
                .fault(-11, NULL, 0, 3, 1, 0).fault(-11, NULL, 0, 3, 1, 1).fault(-11, NULL, 0, 3, 1, 2)
                .fault(-13, INDEX, 2, -1, 3, 1).fault(-13, INDEX, 2, -1, 3, 0)
                .fault(-13, INDEX, 2, 0, 3, 9).fault(-13, INDEX, 2, 7, 3, 2)
                .fault(-13, INDEX, 2, 8, 3, 1).fault(-13, INDEX, 2, 9, 3, 0)
                .fault(-13, INDEX, 2, 0, 3, 40).fault(-13, INDEX, 2, MAX, 3, 40)
                .fault(-13, INDEX, 2, MIN, 3, 40).fault(-13, INDEX, 2, MIN, 3, 0)
                .made(STATE, Made::bare)
                .with(OUTSIDE, 2, 6, 3, 1).with(OUTSIDE, 2, 7, 3, 1).with(OUTSIDE, 2, 0, 3, 7)
                .with(-103, 2, 0, 3, 4).with(-103, 2, 0, 3, 6)
                .holds(8);
    }

    private static void howToAsk() {
        Order.of("ask", (x, a) -> x.ask(a[0], a[1], a[2]), 0, 0, -1)
                .range(UNKNOWN, 0, 0, 4).range(UNKNOWN, 1, 0, 1).made(UNKNOWN, Made::bare)
                .range(OUTSIDE, 2, -2, 15).holds(1);
        Order.of("treaty", (x, a) -> x.treaty(a[0]), 15)
                .range(OUTSIDE, 0, -1, 15).made(STATE, Made::bare).holds(SaltBorder.NONE);
        Order.of("game", (x, a) -> x.game(a[0], a[1], a[2]), 0, 1, 0)
                .range(UNKNOWN, 0, 0, 1).range(OUTSIDE, 1, 1, 4).range(OUTSIDE, 2, 0, 1)
                .made(STATE, Made::bare).holds(106);
        Order.of("spilt", (x, a) -> x.spilt(a[0]), 63)
                .made(STATE, Made::bare).range(OUTSIDE, 0, 0, 63).holds(16);
        Order.of("home", (x, a) -> x.home(a[0]), 2)
                .range(LOST, 0, 0, 20).made(LOST, Made::bare).holds(2);
    }

    private static void howLongItTook() {
        Order.of("reading", (x, a) -> x.reading(a[0], a[1]), 5, 19)
                .range(UNKNOWN, 0, 0, 5).made(UNKNOWN, Made::bare)
                .range(OUTSIDE, 1, 0, 19).made(FULL, Made::full).holds(2);
        Order.of("back", (x, a) -> x.back(a[0]), 2)
                .range(OUTSIDE, 0, 0, 2).holds(0);
        Order.of("back", (x, a) -> x.back(a[0]), 0)
                .made(OUTSIDE, Made::bare, 0, 1).made(OUTSIDE, Made::full, 0, 9).holds(2);
        Order.of("mouths", (x, a) -> x.mouths(a[0]), 0)
                .range(UNKNOWN, 0, 0, 5).made(UNKNOWN, Made::bare).holds(8);
        Order.of("kinds", (x, a) -> x.kinds(a[0]), 0)
                .range(UNKNOWN, 0, 0, 5).made(UNKNOWN, Made::bare).holds(1);
        Order.of("soups", (x, a) -> x.soups()).made(STATE, Made::bare).holds(4);
        Order.of("odds", (x, a) -> x.odds(a[0], a[1], a[2], a[3]), 1, 0, 0, 1)
                .range(LOST, 0, 0, 4).range(LOST, 1, 0, 1).made(LOST, Made::bare)
                .range(LOST, 2, 0, 8).range(LOST, 3, 0, 1).holds(1);
    }

    private static void sheets() {
        Order.namingFaults("sheet", (x, a) -> x.sheet(a[0], a[1], a[2]), 3, 2, 5)
                .range(UNKNOWN, 0, 0, 3).range(OUTSIDE, 1, 0, 2).numbers(OUTSIDE, 2, 61, MAX)
                .fault(-14, SIZE, 2, -1).fault(-14, SIZE, 2, MIN).holds(1);
        Order.of("lose", (x, a) -> x.lose(a[0]), 2).range(UNKNOWN, 0, 0, 3).holds(1);
    }

    private static void cells() {
        Order.namingFaults("put", (x, a) -> x.put(a[0], a[1], a[2]), 1, 2, 9)
                .range(UNKNOWN, 0, 0, 3)
                .fault(-11, NULL, 0, 3)
                .fault(-13, INDEX, 1, -1).fault(-13, INDEX, 1, 3)
                .fault(-13, INDEX, 1, MIN).fault(-13, INDEX, 1, MAX).holds(1);
        Order.namingFaults("cell", (x, a) -> x.cell(a[0], a[1], a[2]), 1, 1, 1)
                .range(LOST, 0, 0, 3)
                .range(LOST, 2, 0, 2)
                .fault(LOST, CAST, 0, 0, 2, 1).fault(LOST, CAST, 0, 0, 2, 2)
                .fault(LOST, CAST, 0, 1, 2, 0).fault(LOST, CAST, 0, 1, 2, 2)
                .fault(LOST, CAST, 0, 2, 2, 0).fault(LOST, CAST, 0, 2, 2, 1)
                .fault(LOST, NULL, 0, 3, 2, 0).fault(LOST, NULL, 0, 3, 2, 1).fault(LOST, NULL, 0, 3, 2, 2)
                .fault(LOST, INDEX, 1, -1).fault(LOST, INDEX, 1, 3)
                .fault(LOST, INDEX, 1, MIN).fault(LOST, INDEX, 1, MAX).holds(-300);
    }

    /** "UNKNOWN; FAULTS NULL (the first, the other), CAST (unlike LANES), INDEX". */
    private static void copy() {
        Order.namingFaults("copy", (x, a) -> x.copy(a[0], a[1], a[2], a[3], a[4]), 2, 0, 2, 1, 7)
                .range(UNKNOWN, 0, 0, 3).range(UNKNOWN, 2, 0, 3)
                .fault(-11, NULL, 0, 3).fault(-11, NULL, 2, 3).fault(-11, NULL, 0, 3, 2, 3)
                .fault(-12, CAST, 0, 0, 2, 1).fault(-12, CAST, 0, 0, 2, 2)
                .fault(-12, CAST, 0, 1, 2, 0).fault(-12, CAST, 0, 1, 2, 2)
                .fault(-12, CAST, 0, 2, 2, 0).fault(-12, CAST, 0, 2, 2, 1)
                .fault(-13, INDEX, 1, -1, 4, 1).fault(-13, INDEX, 3, -1, 4, 1)
                .fault(-13, INDEX, 1, -1, 4, 0).fault(-13, INDEX, 3, -1, 4, 0)
                .fault(-13, INDEX, 1, 9, 4, 0).fault(-13, INDEX, 3, 9, 4, 0)
                .fault(-13, INDEX, 1, 2, 3, 0, 4, 7).fault(-13, INDEX, 1, 0, 3, 2, 4, 7)
                .fault(-13, INDEX, 1, 8, 3, 0, 4, 1).fault(-13, INDEX, 1, 0, 3, 8, 4, 1)
                .fault(-13, INDEX, 1, 0, 3, 0, 4, 9).fault(-13, INDEX, 4, -1).fault(-13, INDEX, 4, MIN)
                .fault(-13, INDEX, 1, MAX, 4, MAX).fault(-13, INDEX, 3, MAX, 4, MAX)
                .fault(-13, INDEX, 1, MIN, 4, MIN).fault(-13, INDEX, 3, MIN, 4, MIN).holds(7);
    }

    private static void parts() {
        Order.of("tell", (x, a) -> x.tell(a[0]), 5)
                .range(UNKNOWN, 0, 0, 5).made(UNKNOWN, Made::bare).holds(5);
        Order.of("toast", (x, a) -> x.toast(a[0]), 5)
                .range(UNKNOWN, 0, 0, 5).made(UNKNOWN, Made::bare).holds(5);
        Order.namingFaults("as", (x, a) -> x.as(a[0], a[1]), 2, 1)
                .range(UNKNOWN, 0, 0, 5).made(UNKNOWN, Made::bare)
                .range(OUTSIDE, 1, 0, 2)
                .fault(-12, CAST, 0, 0, 1, 1).fault(-12, CAST, 0, 0, 1, 2)
                .fault(-12, CAST, 0, 1, 1, 2).holds(1);
        Order.of("many", (x, a) -> x.many(a[0]), 5)
                .range(OUTSIDE, 0, 0, 5).made(OUTSIDE, Made::bare, 0, 6).holds(2);
    }
}
