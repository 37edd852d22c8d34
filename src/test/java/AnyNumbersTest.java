import java.util.Arrays;
import java.util.function.Supplier;

/**
 * Every call with numbers from all over, in every combination, on objects without a TABLE, with one,
 * and with as many READINGS as there can be: the machine never throws, and what is answered is what
 * the document's face can answer.
 */
final class AnyNumbersTest {
    /** Each comes with two more, and an object has 512. */
    private static final int CALLS = 100;
    private static final int[] FEW = {Integer.MIN_VALUE, -1, 0, 1, 3, 44, 61, Integer.MAX_VALUE};
    private static final int[] MANY = {
        Integer.MIN_VALUE, Integer.MIN_VALUE + 1, -100, -9, -4, -3, -2, -1, 0, 1, 2, 3, 4, 5, 6, 7, 8, 9, 10, 15,
        16, 19, 20, 21, 40, 41, 59, 60, 61, 63, 64, 255, 256, 65536, Integer.MAX_VALUE - 1, Integer.MAX_VALUE,
    };

    public static void main(String[] args) {
        ofOne();
        ofTwo();
        ofThreeAndMore();
        ofNone();
        Check.finish();
    }

    private static void any(String name, int numbers, Order.Call call) {
        any(name, numbers, call, SaltBorder::new);
        any(name, numbers, call, Made::bare);
        any(name, numbers, call, Made::laid);
        any(name, numbers, call, Made::full);
    }

    private static void any(String name, int numbers, Order.Call call, Supplier<SaltBorder> made) {
        int[] from = numbers <= 2 ? MANY : FEW;
        int[] at = new int[numbers];
        SaltBorder x = made.get();
        int left = CALLS;
        do {
            int[] a = new int[numbers];
            for (int k = 0; k < numbers; k++) {
                a[k] = from[at[k]];
            }
            if (left == 0) {
                x = made.get();
                left = CALLS;
            }
            left--;
            once(name, call, x, a);
        } while (next(at, from.length));
    }

    private static boolean next(int[] at, int length) {
        for (int k = 0; k < at.length; k++) {
            if (++at[k] < length) {
                return true;
            }
            at[k] = 0;
        }
        return false;
    }

    private static void once(String name, Order.Call call, SaltBorder x, int[] a) {
        try {
            call.on(x, a);
        } catch (Throwable thrown) {
            Check.isSo(name + Arrays.toString(a) + " threw " + thrown, false);
        }
        int fault = x.fault();
        Check.isSo(name + " fault " + fault, fault >= 0 && fault <= 4);
        int guests = x.many(0);
        Check.isSo(name + " guests " + guests, guests == 0 || guests >= 3 && guests <= 8);
    }

    private static void ofOne() {
        any("whose", 1, (x, a) -> x.whose(a[0]));
        any("land", 1, (x, a) -> x.land(a[0]));
        any("cook", 1, (x, a) -> x.cook(a[0]));
        any("pass", 1, (x, a) -> x.pass(a[0]));
        any("treaty", 1, (x, a) -> x.treaty(a[0]));
        any("spilt", 1, (x, a) -> x.spilt(a[0]));
        any("home", 1, (x, a) -> x.home(a[0]));
        any("back", 1, (x, a) -> x.back(a[0]));
        any("mouths", 1, (x, a) -> x.mouths(a[0]));
        any("kinds", 1, (x, a) -> x.kinds(a[0]));
        any("lose", 1, (x, a) -> x.lose(a[0]));
        any("tell", 1, (x, a) -> x.tell(a[0]));
        any("toast", 1, (x, a) -> x.toast(a[0]));
        any("many", 1, (x, a) -> x.many(a[0]));
    }

    private static void ofTwo() {
        any("ofGuest", 2, (x, a) -> x.ofGuest(a[0], a[1]));
        any("ofDish", 2, (x, a) -> x.ofDish(a[0], a[1]));
        any("chew", 2, (x, a) -> x.chew(a[0], a[1]));
        any("rate", 2, (x, a) -> x.rate(a[0], a[1]));
        any("carry", 2, (x, a) -> x.carry(a[0], a[1]));
        any("reading", 2, (x, a) -> x.reading(a[0], a[1]));
        any("as", 2, (x, a) -> x.as(a[0], a[1]));
    }

    private static void ofThreeAndMore() {
        any("ask", 3, (x, a) -> x.ask(a[0], a[1], a[2]));
        any("game", 3, (x, a) -> x.game(a[0], a[1], a[2]));
        any("sheet", 3, (x, a) -> x.sheet(a[0], a[1], a[2]));
        any("put", 3, (x, a) -> x.put(a[0], a[1], a[2]));
        any("cell", 3, (x, a) -> x.cell(a[0], a[1], a[2]));
        any("table", 4, (x, a) -> x.table(a[0], a[1], a[2], a[3]));
        any("odds", 4, (x, a) -> x.odds(a[0], a[1], a[2], a[3]));
        any("dinner", 5, (x, a) -> x.dinner(a[0], a[1], a[2], a[3], a[4]));
        any("copy", 5, (x, a) -> x.copy(a[0], a[1], a[2], a[3], a[4]));
    }

    private static void ofNone() {
        any("soups", 0, (x, a) -> x.soups());
        any("trace", 0, (x, a) -> x.trace());
        any("fault", 0, (x, a) -> x.fault());
    }
}
