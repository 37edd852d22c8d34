import java.util.ArrayList;
import java.util.Arrays;
import java.util.List;
import java.util.function.Supplier;

/**
 * What a call answers where it is refused or comes to a FAULT: told in the document's order, each is
 * tried alone and together with each that stands behind it, where the first one is due. Each time
 * fault() is looked at, and that nothing else is changed.
 */
final class Order {
    private static final int MIN = Integer.MIN_VALUE, MAX = Integer.MAX_VALUE;

    interface Call {
        long on(SaltBorder x, int[] a);
    }

    /** What makes a call one that is not taken: other numbers, or an object made otherwise. */
    private static final class Spoilt {
        final long want;
        final int fault;
        final Supplier<SaltBorder> made;
        final int[] placesAndNumbers;

        Spoilt(long want, int fault, Supplier<SaltBorder> made, int... placesAndNumbers) {
            this.want = want;
            this.fault = fault;
            this.made = made;
            this.placesAndNumbers = placesAndNumbers;
        }

        void put(int[] a) {
            for (int k = 0; k < placesAndNumbers.length; k += 2) {
                a[placesAndNumbers[k]] = placesAndNumbers[k + 1];
            }
        }
    }

    private final String name;
    private final boolean namesFaults;
    private final Call call;
    private final int[] taken;
    private final List<Spoilt> all = new ArrayList<>();

    private Order(String name, boolean namesFaults, Call call, int[] taken) {
        this.name = name;
        this.namesFaults = namesFaults;
        this.call = call;
        this.taken = taken;
    }

    /** A call that names no FAULTS, with numbers that are taken. */
    static Order of(String name, Call call, int... taken) {
        return new Order(name, false, call, taken);
    }

    static Order namingFaults(String name, Call call, int... taken) {
        return new Order(name, true, call, taken);
    }

    /** Number `place` is taken from low to high, and no further. */
    Order range(long want, int place, int low, int high) {
        return numbers(want, place, low - 1, high + 1, MIN, MAX);
    }

    Order numbers(long want, int place, int... numbers) {
        for (int v : numbers) {
            all.add(new Spoilt(want, 0, null, place, v));
        }
        return this;
    }

    Order with(long want, int... placesAndNumbers) {
        all.add(new Spoilt(want, 0, null, placesAndNumbers));
        return this;
    }

    Order fault(long want, int fault, int... placesAndNumbers) {
        all.add(new Spoilt(want, fault, null, placesAndNumbers));
        return this;
    }

    Order made(long want, Supplier<SaltBorder> made, int... placesAndNumbers) {
        all.add(new Spoilt(want, 0, made, placesAndNumbers));
        return this;
    }

    void holds(long wantTaken) {
        SaltBorder x = Made.laid();
        Check.due(name + " is taken", call.on(x, taken.clone()), wantTaken);
        Check.due("its fault", x.fault(), namesFaults ? 0 : Made.LEFT_FAULT);
        for (int first = 0; first < all.size(); first++) {
            refused(all.get(first), all.get(first));
            for (int other = first + 1; other < all.size(); other++) {
                refused(all.get(first), all.get(other));
            }
        }
    }

    private void refused(Spoilt first, Spoilt other) {
        int[] a = taken.clone();
        other.put(a);
        first.put(a);
        Supplier<SaltBorder> made = first.made != null ? first.made : other.made;
        SaltBorder x = made == null ? Made.laid() : made.get();
        SaltBorder twin = made == null ? Made.laid() : made.get();
        String what = name + Arrays.toString(a);
        Check.due(what, call.on(x, a), first.want);
        Check.due(what + " fault", x.fault(), namesFaults ? first.fault : Made.LEFT_FAULT);
        String told = Made.told(x);
        Check.isSo(what + " changes nothing: " + told, told.equals(Made.told(twin)));
    }
}
