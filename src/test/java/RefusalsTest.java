/** What the terms say of calls that throw: each promise's call, by each of its exceptions, changes nothing. */
public final class RefusalsTest {
    private static final String CHANGES_NOTHING = "a call that throws changes nothing";
    private static final int LEAST = Sample.LEAST;
    private static final int MOST = Sample.MOST;

    private RefusalsTest() {
    }

    public static void main(String[] args) throws IllegalAccessException {
        Sentences.run(RefusalsTest.class);
    }

    private static Twins full() {
        return new Twins(Twins::fullOfAll);
    }

    private static Twins mixed() {
        return new Twins(Twins::mixed);
    }

    @Says(promise = 0, words = CHANGES_NOTHING)
    static void terms_promise2_put() {
        full().refuse("below all keys", Check.TOO_MANY, x -> x.put(0, 9) ? 1 : 0)
            .refuse("between two keys", Check.TOO_MANY, x -> x.put(600, 9) ? 1 : 0)
            .refuse("above all keys", Check.TOO_MANY, x -> x.put(1200, 9) ? 1 : 0);
    }

    @Says(promise = 0, words = CHANGES_NOTHING)
    static void terms_promise3_remove() {
        full().refuse("below all keys", Check.NO_ELEMENT, x -> x.remove(0))
            .refuse("between two keys", Check.NO_ELEMENT, x -> x.remove(600))
            .refuse("above all keys", Check.NO_ELEMENT, x -> x.remove(1200));
        mixed().refuse("a key of a snapshot alone", Check.NO_ELEMENT, x -> x.remove(10));
    }

    @Says(promise = 0, words = CHANGES_NOTHING)
    static void terms_promise4_load() {
        full().refuse("n below 0", Check.BAD_ARGUMENT, x -> x.load(0, 1, -1, 0, 0))
            .refuse("n above 600", Check.BAD_ARGUMENT, x -> x.load(0, 1, 601, 0, 0));
        mixed().refuse("step below 1", Check.BAD_ARGUMENT, x -> x.load(0, 0, 5, 0, 0))
            .refuse("step below 1, no keys", Check.BAD_ARGUMENT, x -> x.load(0, 0, 0, 0, 0))
            .refuse("the last key beyond ints", Check.BAD_ARGUMENT, x -> x.load(MOST - 3, 1, 5, 0, 0))
            .refuse("all keys but one beyond ints", Check.BAD_ARGUMENT, x -> x.load(MOST, 1, 600, 0, 0));
    }

    @Says(promise = 0, words = CHANGES_NOTHING)
    static void terms_promise6_merge() {
        full().refuse("no such version", Check.NO_INDEX, x -> x.merge(13))
            .refuse("far more than 600", Check.TOO_MANY, x -> x.merge(1));
        new Twins(() -> {
            OrderedVersions x = Twins.mixed();
            x.load(0, 1, 300, 1, 0);
            x.snapshot();
            x.load(299, 2, 302, 1, 0);
            return x;
        }).refuse("601", Check.TOO_MANY, x -> x.merge(2));
    }

    @Says(promise = 0, words = CHANGES_NOTHING)
    static void terms_promise7_snapshot() {
        full().refuse("a thirteenth", Check.TOO_MANY, OrderedVersions::snapshot);
    }

    @Says(promise = 0, words = CHANGES_NOTHING)
    static void terms_promise8_release() {
        full().refuse("the present map", Check.NO_INDEX, x -> x.release(0))
            .refuse("number 13", Check.NO_INDEX, x -> x.release(13));
        mixed().refuse("one that is gone", Check.NO_INDEX, x -> x.release(2));
    }

    @Says(promise = 0, words = CHANGES_NOTHING)
    static void terms_promise9_restore() {
        full().refuse("the present map", Check.NO_INDEX, x -> x.restore(0))
            .refuse("number 13", Check.NO_INDEX, x -> x.restore(13));
        mixed().refuse("one that is gone", Check.NO_INDEX, x -> x.restore(2));
    }

    @Says(promise = 0, words = CHANGES_NOTHING)
    static void terms_promise10_size() {
        mixed().refuse("no such version", Check.NO_INDEX, x -> x.size(2));
    }

    @Says(promise = 0, words = CHANGES_NOTHING)
    static void terms_promise11_get() {
        mixed().refuse("no such version", Check.NO_INDEX, x -> x.get(2, 30))
            .refuse("no such key", Check.NO_ELEMENT, x -> x.get(0, 10))
            .refuse("no such key of a snapshot", Check.NO_ELEMENT, x -> x.get(1, 25));
    }

    @Says(promise = 0, words = CHANGES_NOTHING)
    static void terms_promise12_rank() {
        mixed().refuse("no such version", Check.NO_INDEX, x -> x.rank(2, 30));
    }

    @Says(promise = 0, words = CHANGES_NOTHING)
    static void terms_promise13_select() {
        mixed().refuse("no such version", Check.NO_INDEX, x -> x.select(2, 0))
            .refuse("a rank below 0", Check.NO_ELEMENT, x -> x.select(0, -1))
            .refuse("a rank of the size", Check.NO_ELEMENT, x -> x.select(0, 5));
    }

    @Says(promise = 0, words = CHANGES_NOTHING)
    static void terms_promise14_near() {
        mixed().refuse("no such version", Check.NO_INDEX, x -> x.near(2, 30, true))
            .refuse("below all keys", Check.NO_ELEMENT, x -> x.near(0, 19, false))
            .refuse("above all keys", Check.NO_ELEMENT, x -> x.near(0, 51, true));
    }

    @Says(promise = 0, words = CHANGES_NOTHING)
    static void terms_promise15_sum() {
        mixed().refuse("no such version", Check.NO_INDEX, x -> x.sum(2, LEAST, MOST));
    }

    @Says(promise = 0, words = CHANGES_NOTHING)
    static void terms_promise16_greatest() {
        mixed().refuse("no such version", Check.NO_INDEX, x -> x.greatest(2, LEAST, MOST))
            .refuse("a range without keys", Check.NO_ELEMENT, x -> x.greatest(0, LEAST, 19))
            .refuse("a range upside down", Check.NO_ELEMENT, x -> x.greatest(0, 50, 20));
    }

    @Says(promise = 0, words = CHANGES_NOTHING)
    static void terms_promise17_differs() {
        mixed().refuse("no such first one", Check.NO_INDEX, x -> x.differs(2, 0))
            .refuse("no such second one", Check.NO_INDEX, x -> x.differs(0, 2));
    }

    @Says(promise = 0, words = CHANGES_NOTHING)
    static void terms_promise18_firstDifference() {
        mixed().refuse("no such first one", Check.NO_INDEX, x -> x.firstDifference(2, 0))
            .refuse("no such second one", Check.NO_INDEX, x -> x.firstDifference(0, 2))
            .refuse("no difference", Check.NO_ELEMENT, x -> x.firstDifference(0, 3));
    }

    @Says(promise = 0, words = CHANGES_NOTHING)
    static void terms_promise19_open() {
        full().refuse("a ninth", Check.TOO_MANY, x -> x.open(0, 5, true))
            .refuse("a ninth, at the end", Check.TOO_MANY, x -> x.open(1, MOST, false));
        mixed().refuse("no such version", Check.NO_INDEX, x -> x.open(2, 5, true));
    }

    @Says(promise = 0, words = CHANGES_NOTHING)
    static void terms_promise20_next() {
        mixed().refuse("no such cursor", Check.NO_INDEX, x -> x.next(1))
            .refuse("at the end", Check.NO_ELEMENT, x -> x.next(0))
            .refuse("at the end, downward", Check.NO_ELEMENT, x -> x.next(3));
    }

    @Says(promise = 0, words = CHANGES_NOTHING)
    static void terms_promise21_skip() {
        full().refuse("n below 0", Check.BAD_ARGUMENT, x -> x.skip(0, -1))
            .refuse("n below 0, downward", Check.BAD_ARGUMENT, x -> x.skip(1, -1));
        mixed().refuse("no such cursor", Check.NO_INDEX, x -> x.skip(1, 1))
            .refuse("the least int", Check.BAD_ARGUMENT, x -> x.skip(2, LEAST))
            .refuse("n below 0 at the end", Check.BAD_ARGUMENT, x -> x.skip(3, -1));
    }

    @Says(promise = 0, words = CHANGES_NOTHING)
    static void terms_promise22_peek() {
        mixed().refuse("no such cursor", Check.NO_INDEX, x -> x.peek(1))
            .refuse("at the end", Check.NO_ELEMENT, x -> x.peek(0))
            .refuse("at the end, downward", Check.NO_ELEMENT, x -> x.peek(3));
    }

    @Says(promise = 0, words = CHANGES_NOTHING)
    static void terms_promise23_close() {
        full().refuse("number 8", Check.NO_INDEX, x -> x.close(8));
        mixed().refuse("one that is gone", Check.NO_INDEX, x -> x.close(1));
    }
}
