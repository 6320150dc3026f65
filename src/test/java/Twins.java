import java.util.function.Supplier;
import java.util.function.ToLongFunction;

/** Two objects with one past: a call that throws is tried on one of them, and must not tell it from the other. */
final class Twins {
    private final Supplier<OrderedVersions> past;

    Twins(Supplier<OrderedVersions> past) {
        this.past = past;
    }

    /** All that can be full is, and no map is as another one: the present map has 1, 3 .. 1199. */
    static OrderedVersions fullOfAll() {
        OrderedVersions x = new OrderedVersions();
        for (int i = 0; i < 12; i++) {
            x.load(i, 2, 600, 1, 1000 * i);
            x.snapshot();
        }
        x.load(1, 2, 600, -1, 0);
        for (int i = 0; i < 8; i++) {
            x.open(i, 100 * i, i % 2 == 1);
        }
        return x;
    }

    /** Snapshot 2 and cursor 1 are gone, cursors 0 and 3 are at the end, cursor 2 is on its way. */
    static OrderedVersions mixed() {
        OrderedVersions x = Sample.five();
        x.snapshot();
        x.put(25, 7);
        x.snapshot();
        x.remove(10);
        x.snapshot();
        x.open(0, Sample.MOST, false);
        x.open(1, 10, false);
        x.open(3, 45, true);
        x.open(0, Sample.LEAST, true);
        x.next(2);
        x.close(1);
        x.release(2);
        return x;
    }

    Twins refuse(String what, Class<?> due, ToLongFunction<OrderedVersions> call) {
        OrderedVersions tried = past.get();
        Check.refused(what, due, () -> call.applyAsLong(tried));
        Check.same(what + " changes nothing", tale(tried), tale(past.get()));
        return this;
    }

    /** All that an object can be asked; the asking itself moves cursors and takes numbers. */
    private static String tale(OrderedVersions x) {
        StringBuilder text = new StringBuilder("astray " + x.astray());
        for (int version = 0; version <= 12; version++) {
            text.append("; version ").append(version).append(mapTale(x, version));
        }
        for (int cursor = 0; cursor < 8; cursor++) {
            text.append("; cursor ").append(cursor).append(cursorTale(x, cursor));
        }
        text.append("; next numbers ").append(Check.outcome(x::snapshot));
        text.append(' ').append(Check.outcome(() -> x.open(0, 0, false)));
        return text.toString();
    }

    /** Eight keys, spread over all, stand for the rest: an object is promised for 512 calls alone. */
    private static String mapTale(OrderedVersions x, int version) {
        String size = Check.outcome(() -> x.size(version));
        StringBuilder text = new StringBuilder(" of " + size);
        if (size.endsWith("Exception")) {
            return text.toString();
        }
        text.append(", sum ").append(x.sum(version, Sample.LEAST, Sample.MOST));
        int last = Integer.parseInt(size) - 1;
        for (int i = 0; i <= Math.min(7, last); i++) {
            int key = x.select(version, last < 8 ? i : i * last / 7);
            text.append(' ').append(key).append('=').append(x.get(version, key));
        }
        return text.toString();
    }

    private static String cursorTale(OrderedVersions x, int cursor) {
        return " " + Check.outcome(() -> x.peek(cursor)) + " " + Check.outcome(() -> x.next(cursor))
            + " " + Check.outcome(() -> x.peek(cursor)) + " " + Check.outcome(() -> x.next(cursor))
            + " " + Check.outcome(() -> x.skip(cursor, Sample.MOST));
    }
}
