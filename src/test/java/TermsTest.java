import java.util.LinkedHashMap;
import java.util.Map;
import java.util.function.Consumer;

/** The terms of the document: what holds for more than one promise. */
public final class TermsTest {
    private static final int LEAST = Sample.LEAST;
    private static final int MOST = Sample.MOST;

    private TermsTest() {
    }

    public static void main(String[] args) throws IllegalAccessException {
        Sentences.run(TermsTest.class);
    }

    /** Every kind of call that changes the present map, on FIVE with a snapshot 1 of FIVE and an empty one 2. */
    private static Map<String, Consumer<OrderedVersions>> changes() {
        Map<String, Consumer<OrderedVersions>> all = new LinkedHashMap<>();
        all.put("put of a new key", x -> x.put(15, 9));
        all.put("put of a new least key", x -> x.put(LEAST, 9));
        all.put("put of an old key", x -> x.put(30, 9));
        all.put("remove", x -> x.remove(30));
        all.put("load", x -> x.load(0, 1, 600, 0, 9));
        all.put("load of nothing", x -> x.load(0, 1, 0, 0, 0));
        all.put("cut", x -> x.cut(20, 40));
        all.put("cut of all", x -> x.cut(LEAST, MOST));
        all.put("merge", x -> {
            x.load(15, 10, 3, 0, 9);
            x.merge(1);
        });
        all.put("restore of the other one", x -> x.restore(2));
        all.put("restore and put", x -> {
            x.restore(1);
            x.put(30, 9);
            x.put(35, 9);
        });
        return all;
    }

    /** FIVE as versions 0 and 1, an empty map as version 2. */
    private static OrderedVersions withEmptySnapshot() {
        OrderedVersions x = new OrderedVersions();
        x.snapshot();
        x.snapshot();
        x.release(1);
        Sample.putFive(x);
        x.snapshot();
        return x;
    }

    @Says(promise = 0, words = "An object is used for at most 512 calls after it has been made")
    static void terms_the512thCallStillAnswers() {
        OrderedVersions x = new OrderedVersions();
        for (int call = 1; call <= 510; call++) {
            x.put(call, call);
        }
        Check.due("call 511", x.sum(0, LEAST, MOST), 510 * 511 / 2);
        Check.due("call 512", x.size(0), 510);
    }

    @Says(promise = 0, words = "600 keys at most")
    static void terms_putGoesTo600Keys() {
        OrderedVersions x = new OrderedVersions();
        x.load(0, 2, 599, 1, 0);
        Check.due("put of the 600th", x.put(1, 1), true);
        Check.refused("put of the 601st", Check.TOO_MANY, () -> x.put(3, 3) ? 1 : 0);
        Check.due("size", x.size(0), 600);
    }

    @Says(promise = 0, words = "600 keys at most")
    static void terms_loadGoesTo600Keys() {
        OrderedVersions x = new OrderedVersions();
        Check.due("load of 600", x.load(0, 1, 600, 1, 0), 0);
        Check.refused("load of 601", Check.BAD_ARGUMENT, () -> x.load(0, 1, 601, 1, 0));
        Check.due("size", x.size(0), 600);
    }

    @Says(promise = 0, words = "600 keys at most")
    static void terms_mergeGoesTo600Keys() {
        OrderedVersions x = new OrderedVersions();
        x.load(0, 2, 300, 1, 0);
        x.snapshot();
        x.load(1, 2, 301, 1, 0);
        Check.refused("merge to 601", Check.TOO_MANY, () -> x.merge(1));
        x.remove(601);
        Check.due("merge to 600", x.merge(1), 300);
        Check.due("size", x.size(0), 600);
    }

    @Says(promise = 0, words = "600 keys at most")
    static void terms_snapshotsAndCursorsTakeAll600Keys() {
        OrderedVersions x = Sample.full();
        x.snapshot();
        x.open(0, 0, false);
        x.open(1, 599, true);
        Check.due("snapshot", x.size(1), 600);
        Check.due("restored", x.restore(1), 600);
        Check.due("last of the snapshot", x.get(1, 599), 599);
        Check.due("upward", x.skip(0, 599), 599);
        Check.due("last upward", x.next(0), 599);
        Check.due("downward", x.skip(1, 599), 599);
        Check.due("last downward", x.next(1), 0);
    }

    @Says(promise = 0, words = "A MAP has KEYS, each an int with a VALUE, an int")
    static void terms_leastAndGreatestIntsAreKeysAndValues() {
        OrderedVersions x = new OrderedVersions();
        x.put(MOST, LEAST);
        x.put(0, 0);
        x.put(LEAST, MOST);
        x.put(-1, -1);
        Check.same("map", Sample.map(x, 0), "-2147483648=2147483647 -1=-1 0=0 2147483647=-2147483648");
    }

    @Says(promise = 0, words = "There are the PRESENT map, at first empty")
    static void terms_presentMapIsAtFirstEmpty() {
        Check.due("size", new OrderedVersions().size(0), 0);
    }

    @Says(promise = 0, words = "SNAPSHOTS, 12 at most")
    static void terms_thereAre12SnapshotsAtMost() {
        OrderedVersions x = Sample.five();
        for (int number = 1; number <= 12; number++) {
            Check.due("snapshot", x.snapshot(), number);
        }
        Check.refused("a thirteenth", Check.TOO_MANY, x::snapshot);
        x.release(12);
        Check.due("a twelfth again", x.snapshot(), 12);
        Check.refused("a thirteenth again", Check.TOO_MANY, x::snapshot);
    }

    @Says(promise = 0, words = "maps that do not change")
    static void terms_snapshotsDoNotChangeWithThePresentMap() {
        changes().forEach((name, change) -> {
            OrderedVersions x = withEmptySnapshot();
            change.accept(x);
            Check.same(name, Sample.map(x, 1), Sample.FIVE);
            Check.due(name + ", the empty one", x.size(2), 0);
        });
    }

    @Says(promise = 0, words = "maps that do not change")
    static void terms_snapshotsDoNotChangeWithOtherSnapshots() {
        OrderedVersions x = withEmptySnapshot();
        x.put(60, 6);
        x.snapshot();
        x.release(2);
        x.release(3);
        x.snapshot();
        Check.same("map", Sample.map(x, 1), Sample.FIVE);
    }

    @Says(promise = 0, words = "maps that do not change")
    static void terms_snapshotsDoNotChangeWithCursors() {
        OrderedVersions x = withEmptySnapshot();
        x.open(1, 10, false);
        x.next(0);
        x.skip(0, 2);
        x.close(0);
        Check.same("map", Sample.map(x, 1), Sample.FIVE);
    }

    @Says(promise = 0, words = "A VERSION is 0, the present map")
    static void terms_version0IsThePresentMap() {
        OrderedVersions x = Sample.five();
        x.snapshot();
        x.put(60, 6);
        Check.same("now", Sample.map(x, 0), Sample.FIVE + " 60=6");
        x.restore(1);
        Check.same("restored", Sample.map(x, 0), Sample.FIVE);
    }

    @Says(promise = 0, words = "or a snapshot's number")
    static void terms_aSnapshotsNumberIsAVersion() {
        OrderedVersions x = new OrderedVersions();
        for (int number = 1; number <= 12; number++) {
            x.put(number, number);
            x.snapshot();
        }
        for (int number = 1; number <= 12; number++) {
            Check.due("version " + number, x.size(number), number);
        }
    }

    @Says(promise = 0, words = "or a snapshot's number")
    static void terms_otherNumbersAreNoVersions() {
        OrderedVersions x = Sample.withGaps();
        int[] numbers = {LEAST, LEAST + 1, -2, -1, 3, 5, 12, 13, 14, MOST};
        for (int number : numbers) {
            Check.refused("version " + number, Check.NO_INDEX, () -> x.size(number));
        }
    }

    @Says(promise = 0, words = "snapshots get the least number from 1 on that no other one has")
    static void terms_snapshotsGetTheLeastFreeNumber() {
        OrderedVersions x = Sample.crowded();
        x.release(7);
        x.release(3);
        x.release(12);
        Check.due("first", x.snapshot(), 3);
        Check.due("second", x.snapshot(), 7);
        Check.due("third", x.snapshot(), 12);
    }

    @Says(promise = 0, words = "snapshots get the least number from 1 on that no other one has")
    static void terms_snapshotsBeginAgainAt1() {
        OrderedVersions x = Sample.five();
        Check.due("the first", x.snapshot(), 1);
        Check.due("the second", x.snapshot(), 2);
        x.release(1);
        Check.due("1 is free again", x.snapshot(), 1);
        x.release(2);
        x.release(1);
        Check.due("all are free again", x.snapshot(), 1);
    }

    @Says(promise = 0, words = "CURSORS, 8 at most")
    static void terms_thereAre8CursorsAtMost() {
        OrderedVersions x = Sample.five();
        for (int number = 0; number < 8; number++) {
            Check.due("cursor", x.open(0, 10, false), number);
        }
        Check.refused("a ninth", Check.TOO_MANY, () -> x.open(0, 10, false));
        x.close(7);
        Check.due("an eighth again", x.open(0, 10, true), 7);
        Check.refused("a ninth again", Check.TOO_MANY, () -> x.open(0, 10, true));
    }

    @Says(promise = 0, words = "get the least number from 0 on that no other one has")
    static void terms_cursorsGetTheLeastFreeNumber() {
        OrderedVersions x = Sample.crowded();
        x.close(5);
        x.close(2);
        x.close(7);
        Check.due("first", x.open(0, 10, false), 2);
        Check.due("second", x.open(0, 10, false), 5);
        Check.due("third", x.open(0, 10, false), 7);
    }

    @Says(promise = 0, words = "get the least number from 0 on that no other one has")
    static void terms_cursorsBeginAgainAt0() {
        OrderedVersions x = Sample.five();
        Check.due("the first", x.open(0, 10, false), 0);
        Check.due("the second", x.open(0, 10, false), 1);
        x.close(0);
        Check.due("0 is free again", x.open(0, 10, false), 0);
        x.close(1);
        x.close(0);
        Check.due("all are free again", x.open(0, 10, false), 0);
    }

    @Says(promise = 0, words = "as the version was that it was opened on, when it was opened")
    static void terms_cursorsGoOverThePresentMapAsItWas() {
        changes().forEach((name, change) -> {
            OrderedVersions x = withEmptySnapshot();
            x.open(0, LEAST, false);
            x.open(0, MOST, true);
            x.next(0);
            change.accept(x);
            x.skip(1, 2);
            Check.due(name + ", value", x.peek(1), 3);
            Check.same(name + ", upward", Sample.rest(x, 0), "20 30 40 50");
            Check.same(name + ", downward", Sample.rest(x, 1), "30 20 10");
        });
    }

    @Says(promise = 0, words = "as the version was that it was opened on, when it was opened")
    static void terms_cursorsGoOverASnapshotThatIsGone() {
        OrderedVersions x = Sample.five();
        x.snapshot();
        x.open(1, 10, false);
        x.open(1, 50, true);
        x.release(1);
        x.load(0, 1, 600, 0, 9);
        x.snapshot();
        Check.due("value upward", x.peek(0), 1);
        Check.due("value downward", x.peek(1), 5);
        Check.same("upward", Sample.rest(x, 0), "10 20 30 40 50");
        Check.same("downward", Sample.rest(x, 1), "50 40 30 20 10");
    }

    @Says(promise = 0, words = "upward or downward by keys, and stands before a key, or at the end")
    static void terms_eachCursorHasItsOwnPlaceAndDirection() {
        OrderedVersions x = Sample.five();
        x.open(0, 20, false);
        x.open(0, 20, false);
        x.open(0, 40, true);
        x.next(0);
        x.skip(2, 9);
        Check.same("the first", Sample.rest(x, 0), "30 40 50");
        Check.same("the second", Sample.rest(x, 1), "20 30 40 50");
        Check.same("the third, at its end", Sample.rest(x, 2), "");
    }

    @Says(promise = 0, words = "has the keys from the first one on up to the second one, both with it")
    static void terms_aRangeHasBothItsEnds() {
        OrderedVersions x = Sample.five();
        Check.due("sum", x.sum(0, 20, 40), -3);
        Check.due("greatest at the first one", x.greatest(0, 10, 20), 1);
        Check.due("greatest at the second one", x.greatest(0, 40, 50), 5);
        Check.due("cut", x.cut(20, 40), 3);
        Check.same("cut map", Sample.map(x, 0), "10=1 50=5");
    }

    @Says(promise = 0, words = "has the keys from the first one on up to the second one, both with it")
    static void terms_aRangeOfOneIntHasThatKey() {
        OrderedVersions x = Sample.ends();
        Check.due("sum at the least int", x.sum(0, LEAST, LEAST), 1);
        Check.due("sum at the greatest int", x.sum(0, MOST, MOST), 2);
        Check.due("greatest at the least int", x.greatest(0, LEAST, LEAST), 1);
        Check.due("greatest at the greatest int", x.greatest(0, MOST, MOST), 2);
        Check.due("cut at the greatest int", x.cut(MOST, MOST), 1);
        Check.due("cut at the least int", x.cut(LEAST, LEAST), 1);
        Check.same("cut map", Sample.map(x, 0), "0=3");
    }

    @Says(promise = 0, words = "none if the first one is above the second one")
    static void terms_aRangeUpsideDownHasNoKeys() {
        int[][] ranges = {{20, 19}, {21, 20}, {40, 20}, {50, 10}, {51, 9}, {MOST, LEAST}, {LEAST + 1, LEAST}};
        for (int[] range : ranges) {
            OrderedVersions x = Sample.five();
            String name = range[0] + " to " + range[1];
            Check.due("sum " + name, x.sum(0, range[0], range[1]), 0);
            Check.refused("greatest " + name, Check.NO_ELEMENT, () -> x.greatest(0, range[0], range[1]));
            Check.due("cut " + name, x.cut(range[0], range[1]), 0);
            Check.same("map after cut " + name, Sample.map(x, 0), Sample.FIVE);
        }
    }

    @Says(promise = 0, words = "none if the first one is above the second one")
    static void terms_aRangeUpsideDownHasNoKeysAmongAllInts() {
        OrderedVersions x = Sample.ends();
        Check.due("sum", x.sum(0, MOST, LEAST), 0);
        Check.refused("greatest", Check.NO_ELEMENT, () -> x.greatest(0, MOST, LEAST));
        Check.due("cut", x.cut(MOST, LEAST), 0);
        Check.due("size", x.size(0), 3);
    }

    @Says(promise = 0, words = "Where a call names several exceptions, the first one that fits is thrown")
    static void terms_noSuchVersionComesBeforeNoSuchKey() {
        OrderedVersions x = Sample.five();
        Check.refused("get", Check.NO_INDEX, () -> x.get(1, 11));
        Check.refused("select", Check.NO_INDEX, () -> x.select(1, -1));
        Check.refused("near", Check.NO_INDEX, () -> x.near(1, 9, false));
        Check.refused("near above", Check.NO_INDEX, () -> x.near(1, 51, true));
        Check.refused("greatest", Check.NO_INDEX, () -> x.greatest(1, 2, 1));
        Check.refused("firstDifference", Check.NO_INDEX, () -> x.firstDifference(1, 1));
    }

    @Says(promise = 0, words = "Where a call names several exceptions, the first one that fits is thrown")
    static void terms_noSuchVersionComesBeforeTooMany() {
        OrderedVersions x = Sample.full();
        x.snapshot();
        x.load(1000, 1, 600, 0, 0);
        for (int i = 0; i < 8; i++) {
            x.open(1, 0, false);
        }
        Check.refused("merge of a version", Check.TOO_MANY, () -> x.merge(1));
        Check.refused("open of a version", Check.TOO_MANY, () -> x.open(1, 0, false));
        x.release(1);
        Check.refused("merge of none", Check.NO_INDEX, () -> x.merge(1));
        Check.refused("open of none", Check.NO_INDEX, () -> x.open(1, 0, false));
    }

    @Says(promise = 0, words = "Where a call names several exceptions, the first one that fits is thrown")
    static void terms_noSuchCursorComesBeforeWhatElseIsWrong() {
        OrderedVersions x = Sample.five();
        x.open(0, 51, false);
        Check.refused("next at the end", Check.NO_ELEMENT, () -> x.next(0));
        Check.refused("peek at the end", Check.NO_ELEMENT, () -> x.peek(0));
        Check.refused("skip back", Check.BAD_ARGUMENT, () -> x.skip(0, -1));
        x.close(0);
        Check.refused("next of none", Check.NO_INDEX, () -> x.next(0));
        Check.refused("peek of none", Check.NO_INDEX, () -> x.peek(0));
        Check.refused("skip back of none", Check.NO_INDEX, () -> x.skip(0, -1));
    }
}
