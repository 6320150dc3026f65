/** Promises 10 to 18: the calls that ask versions and change nothing. */
public final class QuestionsTest {
    private static final int LEAST = Sample.LEAST;
    private static final int MOST = Sample.MOST;

    private QuestionsTest() {
    }

    public static void main(String[] args) throws IllegalAccessException {
        Sentences.run(QuestionsTest.class);
    }

    /** FIVE as snapshot 1; the present map has 20 gone, 30 with value 33, and 60 as a new key. */
    private static OrderedVersions moved() {
        OrderedVersions x = Sample.five();
        x.snapshot();
        x.remove(20);
        x.put(30, 33);
        x.put(60, 6);
        return x;
    }

    // Promise 10: size

    @Says(promise = 10, words = "How many keys a version has")
    static void promise10_fromNoneTo600() {
        OrderedVersions x = new OrderedVersions();
        Check.due("none", x.size(0), 0);
        x.put(LEAST, 0);
        Check.due("one", x.size(0), 1);
        x.put(LEAST, 1);
        Check.due("the same one", x.size(0), 1);
        x.load(0, 1, 599, 0, 0);
        Check.due("599", x.size(0), 599);
        x.put(MOST, 0);
        Check.due("600", x.size(0), 600);
        x.remove(0);
        Check.due("599 again", x.size(0), 599);
        x.cut(LEAST, MOST);
        Check.due("none again", x.size(0), 0);
    }

    @Says(promise = 10, words = "How many keys a version has")
    static void promise10_eachVersionHasItsOwn() {
        OrderedVersions x = new OrderedVersions();
        x.snapshot();
        Sample.putFive(x);
        x.snapshot();
        x.load(0, 1, 600, 0, 0);
        Check.due("present map", x.size(0), 600);
        Check.due("empty snapshot", x.size(1), 0);
        Check.due("snapshot of five", x.size(2), 5);
    }

    @Says(promise = 10, words = "IndexOutOfBounds: there is no such version")
    static void promise10_noSuchVersion() {
        Sample.needsVersion(OrderedVersions::size);
    }

    // Promise 11: get

    @Says(promise = 11, words = "A key's value in a version")
    static void promise11_eachVersionHasItsOwnValue() {
        OrderedVersions x = moved();
        Check.due("now", x.get(0, 30), 33);
        Check.due("as it was", x.get(1, 30), 3);
        Check.due("a key that went", x.get(1, 20), -2);
        Check.due("a key that came", x.get(0, 60), 6);
        Check.due("a key that stayed", x.get(0, 10), 1);
    }

    @Says(promise = 11, words = "A key's value in a version")
    static void promise11_firstAndLastOf600() {
        OrderedVersions x = Sample.full();
        for (int key = 0; key < 600; key += 10) {
            Check.due("key " + key, x.get(0, key), key);
        }
        Check.due("last", x.get(0, 599), 599);
    }

    @Says(promise = 11, words = "A key's value in a version")
    static void promise11_leastAndGreatestInts() {
        OrderedVersions x = new OrderedVersions();
        x.put(LEAST, LEAST);
        x.put(MOST, MOST);
        Check.due("least", x.get(0, LEAST), LEAST);
        Check.due("greatest", x.get(0, MOST), MOST);
    }

    @Says(promise = 11, words = "IndexOutOfBounds: there is no such version")
    static void promise11_noSuchVersion() {
        Sample.needsVersion((x, version) -> x.get(version, 10));
    }

    @Says(promise = 11, words = "IndexOutOfBounds: there is no such version")
    static void promise11_noSuchVersionComesBeforeNoSuchKey() {
        Sample.needsVersion((x, version) -> x.get(version, 11));
    }

    @Says(promise = 11, words = "NoSuchElement: it has no such key")
    static void promise11_aKeyThatIsNotThereIsRefused() {
        OrderedVersions x = Sample.five();
        int[] keys = {LEAST, -10, 0, 9, 11, 49, 51, MOST};
        for (int key : keys) {
            Check.refused("key " + key, Check.NO_ELEMENT, () -> x.get(0, key));
        }
    }

    @Says(promise = 11, words = "NoSuchElement: it has no such key")
    static void promise11_aKeyOfAnotherVersionAloneIsRefused() {
        OrderedVersions x = moved();
        Check.refused("gone now", Check.NO_ELEMENT, () -> x.get(0, 20));
        Check.refused("not there yet", Check.NO_ELEMENT, () -> x.get(1, 60));
    }

    @Says(promise = 11, words = "NoSuchElement: it has no such key")
    static void promise11_anEmptyVersionHasNoKey() {
        OrderedVersions x = new OrderedVersions();
        x.snapshot();
        Check.refused("present map", Check.NO_ELEMENT, () -> x.get(0, 0));
        Check.refused("snapshot", Check.NO_ELEMENT, () -> x.get(1, 0));
    }

    // Promise 12: rank

    @Says(promise = 12, words = "How many keys of a version are below an int")
    static void promise12_atKeysAndBetweenThem() {
        OrderedVersions x = Sample.five();
        int[] ints = {LEAST, 9, 10, 11, 20, 30, 49, 50, 51, MOST};
        int[] due = {0, 0, 0, 1, 1, 2, 4, 4, 5, 5};
        for (int i = 0; i < ints.length; i++) {
            Check.due("rank of " + ints[i], x.rank(0, ints[i]), due[i]);
        }
    }

    @Says(promise = 12, words = "How many keys of a version are below an int")
    static void promise12_atTheLeastAndTheGreatestInt() {
        OrderedVersions x = Sample.ends();
        Check.due("least", x.rank(0, LEAST), 0);
        Check.due("above the least", x.rank(0, LEAST + 1), 1);
        Check.due("below the greatest", x.rank(0, MOST - 1), 2);
        Check.due("greatest", x.rank(0, MOST), 2);
    }

    @Says(promise = 12, words = "How many keys of a version are below an int")
    static void promise12_ofEachSizeUpTo600() {
        int[] sizes = {0, 1, 2, 3, 255, 256, 511, 512, 513, 599, 600};
        for (int size : sizes) {
            OrderedVersions x = new OrderedVersions();
            x.load(0, 2, size, 0, 0);
            for (int i = 0; i <= size; i += size < 9 ? 1 : 3) {
                Check.due("of " + size + ", at " + 2 * i, x.rank(0, 2 * i), i);
                Check.due("of " + size + ", below " + 2 * i, x.rank(0, 2 * i - 1), i);
            }
            Check.due("of " + size + ", all", x.rank(0, MOST), size);
        }
    }

    @Says(promise = 12, words = "How many keys of a version are below an int")
    static void promise12_eachVersionHasItsOwn() {
        OrderedVersions x = moved();
        Check.due("now", x.rank(0, 30), 1);
        Check.due("as it was", x.rank(1, 30), 2);
        Check.due("all now", x.rank(0, MOST), 5);
    }

    @Says(promise = 12, words = "How many keys of a version are below an int")
    static void promise12_ofAnEmptyMapNone() {
        OrderedVersions x = new OrderedVersions();
        Check.due("least", x.rank(0, LEAST), 0);
        Check.due("greatest", x.rank(0, MOST), 0);
    }

    @Says(promise = 12, words = "IndexOutOfBounds: there is no such version")
    static void promise12_noSuchVersion() {
        Sample.needsVersion((x, version) -> x.rank(version, 10));
    }

    // Promise 13: select

    @Says(promise = 13, words = "The key of a version with so many below it")
    static void promise13_eachRankHasItsKey() {
        OrderedVersions x = Sample.five();
        for (int rank = 0; rank < 5; rank++) {
            Check.due("rank " + rank, x.select(0, rank), 10 * rank + 10);
        }
    }

    @Says(promise = 13, words = "The key of a version with so many below it")
    static void promise13_eachVersionHasItsOwn() {
        OrderedVersions x = moved();
        Check.due("now", x.select(0, 1), 30);
        Check.due("as it was", x.select(1, 1), 20);
        Check.due("last now", x.select(0, 4), 60);
        Check.due("last as it was", x.select(1, 4), 50);
    }

    @Says(promise = 13, words = "The key of a version with so many below it")
    static void promise13_firstAndLastOf600() {
        OrderedVersions x = new OrderedVersions();
        x.load(-7, 3, 600, 0, 0);
        Check.due("first", x.select(0, 0), -7);
        Check.due("last", x.select(0, 599), -7 + 599 * 3);
        Check.refused("one more", Check.NO_ELEMENT, () -> x.select(0, 600));
    }

    @Says(promise = 13, words = "IndexOutOfBounds: there is no such version")
    static void promise13_noSuchVersion() {
        Sample.needsVersion((x, version) -> x.select(version, 0));
    }

    @Says(promise = 13, words = "IndexOutOfBounds: there is no such version")
    static void promise13_noSuchVersionComesBeforeNoSuchKey() {
        Sample.needsVersion((x, version) -> x.select(version, -1));
    }

    @Says(promise = 13, words = "NoSuchElement: there is no such key")
    static void promise13_aRankBelow0IsRefused() {
        OrderedVersions x = Sample.five();
        Check.refused("-1", Check.NO_ELEMENT, () -> x.select(0, -1));
        Check.refused("least", Check.NO_ELEMENT, () -> x.select(0, LEAST));
    }

    @Says(promise = 13, words = "NoSuchElement: there is no such key")
    static void promise13_aRankOfTheSizeIsRefused() {
        OrderedVersions x = Sample.five();
        int[] ranks = {5, 6, 599, 600, 601, MOST};
        for (int rank : ranks) {
            Check.refused("rank " + rank, Check.NO_ELEMENT, () -> x.select(0, rank));
        }
        x.remove(10);
        Check.refused("of fewer keys", Check.NO_ELEMENT, () -> x.select(0, 4));
    }

    @Says(promise = 13, words = "NoSuchElement: there is no such key")
    static void promise13_anEmptyVersionHasNoKey() {
        OrderedVersions x = new OrderedVersions();
        x.snapshot();
        Check.refused("present map", Check.NO_ELEMENT, () -> x.select(0, 0));
        Check.refused("snapshot", Check.NO_ELEMENT, () -> x.select(1, 0));
    }

    // Promise 14: near

    @Says(promise = 14, words = "The greatest key that is not above an int")
    static void promise14_belowAtKeysAndBetweenThem() {
        OrderedVersions x = Sample.five();
        int[] ints = {10, 11, 19, 20, 49, 50, 51, MOST};
        int[] due = {10, 10, 10, 20, 40, 50, 50, 50};
        for (int i = 0; i < ints.length; i++) {
            Check.due("near " + ints[i], x.near(0, ints[i], false), due[i]);
        }
    }

    @Says(promise = 14, words = "or (on above) the least one that is not below it")
    static void promise14_aboveAtKeysAndBetweenThem() {
        OrderedVersions x = Sample.five();
        int[] ints = {LEAST, 9, 10, 11, 20, 21, 49, 50};
        int[] due = {10, 10, 10, 20, 20, 30, 50, 50};
        for (int i = 0; i < ints.length; i++) {
            Check.due("near " + ints[i], x.near(0, ints[i], true), due[i]);
        }
    }

    @Says(promise = 14, words = "key that is not above an int, or (on above) the least one that is not below it")
    static void promise14_atTheLeastAndTheGreatestInt() {
        OrderedVersions x = Sample.ends();
        Check.due("least, below", x.near(0, LEAST, false), LEAST);
        Check.due("least, above", x.near(0, LEAST, true), LEAST);
        Check.due("greatest, below", x.near(0, MOST, false), MOST);
        Check.due("greatest, above", x.near(0, MOST, true), MOST);
        Check.due("under 0, below", x.near(0, -1, false), LEAST);
        Check.due("over 0, above", x.near(0, 1, true), MOST);
    }

    @Says(promise = 14, words = "key that is not above an int, or (on above) the least one that is not below it")
    static void promise14_eachVersionHasItsOwn() {
        OrderedVersions x = moved();
        Check.due("now, below", x.near(0, 25, false), 10);
        Check.due("as it was, below", x.near(1, 25, false), 20);
        Check.due("now, above", x.near(0, 55, true), 60);
        Check.refused("as it was, above", Check.NO_ELEMENT, () -> x.near(1, 55, true));
    }

    @Says(promise = 14, words = "IndexOutOfBounds: there is no such version")
    static void promise14_noSuchVersion() {
        Sample.needsVersion((x, version) -> x.near(version, 30, true));
        Sample.needsVersion((x, version) -> x.near(version, 30, false));
    }

    @Says(promise = 14, words = "IndexOutOfBounds: there is no such version")
    static void promise14_noSuchVersionComesBeforeNoSuchKey() {
        Sample.needsVersion((x, version) -> x.near(version, 51, true));
        Sample.needsVersion((x, version) -> x.near(version, 9, false));
    }

    @Says(promise = 14, words = "NoSuchElement: there is no such key")
    static void promise14_belowAllKeysNoneIsNotAbove() {
        OrderedVersions x = Sample.five();
        int[] ints = {LEAST, 0, 9};
        for (int key : ints) {
            Check.refused("near " + key, Check.NO_ELEMENT, () -> x.near(0, key, false));
        }
    }

    @Says(promise = 14, words = "NoSuchElement: there is no such key")
    static void promise14_aboveAllKeysNoneIsNotBelow() {
        OrderedVersions x = Sample.five();
        int[] ints = {51, 600, MOST};
        for (int key : ints) {
            Check.refused("near " + key, Check.NO_ELEMENT, () -> x.near(0, key, true));
        }
        OrderedVersions y = Sample.full();
        Check.due("the last of 600", y.near(0, 599, true), 599);
        Check.refused("above 600 keys", Check.NO_ELEMENT, () -> y.near(0, 600, true));
    }

    @Says(promise = 14, words = "NoSuchElement: there is no such key")
    static void promise14_anEmptyVersionHasNoKey() {
        OrderedVersions x = new OrderedVersions();
        int[] ints = {LEAST, 0, MOST};
        for (int key : ints) {
            Check.refused("below " + key, Check.NO_ELEMENT, () -> x.near(0, key, false));
            Check.refused("above " + key, Check.NO_ELEMENT, () -> x.near(0, key, true));
        }
    }

    // Promise 15: sum

    @Says(promise = 15, words = "The sum of the values of a range's keys")
    static void promise15_ofRangesWithTheirEnds() {
        OrderedVersions x = Sample.five();
        sums(x, LEAST, MOST, 3);
        sums(x, 10, 50, 3);
        sums(x, 20, 40, -3);
        sums(x, 11, 39, 1);
        sums(x, 50, 50, 5);
        sums(x, LEAST, 10, 1);
        sums(x, 50, MOST, 5);
    }

    @Says(promise = 15, words = "The sum of the values of a range's keys")
    static void promise15_ofARangeWithoutKeysIs0() {
        OrderedVersions x = Sample.five();
        sums(x, 21, 29, 0);
        sums(x, LEAST, 9, 0);
        sums(x, 51, MOST, 0);
        sums(x, LEAST, LEAST, 0);
        sums(x, MOST, MOST, 0);
        sums(new OrderedVersions(), LEAST, MOST, 0);
    }

    @Says(promise = 15, words = "The sum of the values of a range's keys")
    static void promise15_ofARangeUpsideDownIs0() {
        OrderedVersions x = Sample.five();
        sums(x, 40, 20, 0);
        sums(x, 30, 29, 0);
        sums(x, 31, 30, 0);
        sums(x, MOST, LEAST, 0);
    }

    @Says(promise = 15, words = "The sum of the values of a range's keys")
    static void promise15_goesBeyondInts() {
        OrderedVersions x = new OrderedVersions();
        x.load(0, 1, 600, 0, MOST);
        sums(x, LEAST, MOST, 600L * MOST);
        sums(x, 0, 1, 2L * MOST);
        x.load(0, 1, 600, 0, LEAST);
        sums(x, LEAST, MOST, 600L * LEAST);
        sums(x, 598, 599, 2L * LEAST);
    }

    @Says(promise = 15, words = "The sum of the values of a range's keys")
    static void promise15_atTheLeastAndTheGreatestInt() {
        OrderedVersions x = Sample.ends();
        sums(x, LEAST, MOST, 6);
        sums(x, LEAST, MOST - 1, 4);
        sums(x, LEAST + 1, MOST, 5);
        sums(x, MOST, MOST, 2);
        sums(x, LEAST, LEAST, 1);
    }

    @Says(promise = 15, words = "The sum of the values of a range's keys")
    static void promise15_eachVersionHasItsOwn() {
        OrderedVersions x = moved();
        Check.due("now", x.sum(0, 10, 30), 34);
        Check.due("as it was", x.sum(1, 10, 30), 2);
    }

    @Says(promise = 15, words = "IndexOutOfBounds: there is no such version")
    static void promise15_noSuchVersion() {
        Sample.needsVersion((x, version) -> x.sum(version, 10, 50));
        Sample.needsVersion((x, version) -> x.sum(version, 50, 10));
    }

    private static void sums(OrderedVersions x, int from, int to, long due) {
        Check.due("from " + from + " to " + to, x.sum(0, from, to), due);
    }

    // Promise 16: greatest

    @Says(promise = 16, words = "The greatest value of a range's keys")
    static void promise16_ofRangesWithTheirEnds() {
        OrderedVersions x = Sample.five();
        Check.due("all", x.greatest(0, LEAST, MOST), 5);
        Check.due("at its first key", x.greatest(0, 10, 20), 1);
        Check.due("at its middle key", x.greatest(0, 20, 40), 3);
        Check.due("at its last key", x.greatest(0, 20, 50), 5);
        Check.due("without its ends", x.greatest(0, 31, 49), -4);
        Check.due("of one key", x.greatest(0, 20, 20), -2);
    }

    @Says(promise = 16, words = "The greatest value of a range's keys")
    static void promise16_ofLeastAndGreatestInts() {
        OrderedVersions x = new OrderedVersions();
        x.put(LEAST, LEAST);
        x.put(MOST, LEAST);
        Check.due("least ints alone", x.greatest(0, LEAST, MOST), LEAST);
        x.put(0, LEAST + 1);
        Check.due("one above", x.greatest(0, LEAST, MOST), LEAST + 1);
        x.put(1, MOST);
        Check.due("greatest int", x.greatest(0, LEAST, MOST), MOST);
        Check.due("at the greatest int", x.greatest(0, MOST, MOST), LEAST);
    }

    @Says(promise = 16, words = "The greatest value of a range's keys")
    static void promise16_of600Keys() {
        OrderedVersions x = new OrderedVersions();
        x.load(0, 1, 600, -1, 0);
        Check.due("first", x.greatest(0, LEAST, MOST), 0);
        x.put(599, 1);
        Check.due("last", x.greatest(0, LEAST, MOST), 1);
        Check.due("without the last", x.greatest(0, 1, 598), -1);
    }

    @Says(promise = 16, words = "The greatest value of a range's keys")
    static void promise16_eachVersionHasItsOwn() {
        OrderedVersions x = moved();
        Check.due("now", x.greatest(0, 20, 40), 33);
        Check.due("as it was", x.greatest(1, 20, 40), 3);
    }

    @Says(promise = 16, words = "IndexOutOfBounds: there is no such version")
    static void promise16_noSuchVersion() {
        Sample.needsVersion((x, version) -> x.greatest(version, 10, 50));
    }

    @Says(promise = 16, words = "IndexOutOfBounds: there is no such version")
    static void promise16_noSuchVersionComesBeforeNoSuchKey() {
        Sample.needsVersion((x, version) -> x.greatest(version, 50, 10));
    }

    @Says(promise = 16, words = "NoSuchElement: there is no such key")
    static void promise16_ofARangeWithoutKeysIsRefused() {
        OrderedVersions x = Sample.five();
        int[][] ranges = {{21, 29}, {LEAST, 9}, {51, MOST}, {11, 11}, {LEAST, LEAST}, {MOST, MOST}};
        for (int[] range : ranges) {
            Check.refused("from " + range[0], Check.NO_ELEMENT, () -> x.greatest(0, range[0], range[1]));
        }
    }

    @Says(promise = 16, words = "NoSuchElement: there is no such key")
    static void promise16_ofARangeUpsideDownIsRefused() {
        OrderedVersions x = Sample.five();
        int[][] ranges = {{40, 20}, {30, 29}, {31, 30}, {MOST, LEAST}};
        for (int[] range : ranges) {
            Check.refused("from " + range[0], Check.NO_ELEMENT, () -> x.greatest(0, range[0], range[1]));
        }
    }

    @Says(promise = 16, words = "NoSuchElement: there is no such key")
    static void promise16_anEmptyVersionHasNoKey() {
        OrderedVersions x = new OrderedVersions();
        x.snapshot();
        x.put(1, 1);
        Check.refused("snapshot", Check.NO_ELEMENT, () -> x.greatest(1, LEAST, MOST));
    }

    // Promise 17: differs

    @Says(promise = 17, words = "How many ints are keys of just one of two versions")
    static void promise17_byKeysOfJustOne() {
        OrderedVersions x = Sample.five();
        x.snapshot();
        x.remove(10);
        differ(x, 1);
        x.remove(50);
        differ(x, 2);
        x.put(60, 6);
        differ(x, 3);
        x.put(LEAST, 6);
        differ(x, 4);
        x.put(MOST, 6);
        differ(x, 5);
    }

    @Says(promise = 17, words = "or of both with other values")
    static void promise17_byOtherValues() {
        OrderedVersions x = Sample.five();
        x.snapshot();
        x.put(10, 0);
        differ(x, 1);
        x.put(50, LEAST);
        differ(x, 2);
        x.put(30, 3);
        differ(x, 2);
        x.put(10, 1);
        differ(x, 1);
    }

    @Says(promise = 17, words = "How many ints are keys of just one of two versions, or of both with other values")
    static void promise17_byKeysAndValuesTogether() {
        OrderedVersions x = moved();
        differ(x, 3);
        x.put(20, -2);
        differ(x, 2);
        x.remove(60);
        differ(x, 1);
        x.put(30, 3);
        differ(x, 0);
    }

    @Says(promise = 17, words = "How many ints are keys of just one of two versions, or of both with other values")
    static void promise17_aVersionDoesNotDifferFromItself() {
        OrderedVersions x = moved();
        Check.due("present map", x.differs(0, 0), 0);
        Check.due("snapshot", x.differs(1, 1), 0);
        x.restore(1);
        differ(x, 0);
        Check.due("empty map", new OrderedVersions().differs(0, 0), 0);
    }

    @Says(promise = 17, words = "How many ints are keys of just one of two versions, or of both with other values")
    static void promise17_fromAnEmptyVersionByAllKeys() {
        OrderedVersions x = Sample.full();
        x.snapshot();
        x.cut(LEAST, MOST);
        differ(x, 600);
    }

    @Says(promise = 17, words = "How many ints are keys of just one of two versions, or of both with other values")
    static void promise17_of600KeysEach() {
        OrderedVersions x = new OrderedVersions();
        x.load(0, 2, 600, 1, 0);
        x.snapshot();
        x.load(1, 2, 600, 1, 0);
        differ(x, 1200);
        x.load(0, 2, 600, 1, 1);
        differ(x, 600);
        x.load(2, 2, 600, 1, 0);
        differ(x, 2);
    }

    @Says(promise = 17, words = "How many ints are keys of just one of two versions, or of both with other values")
    static void promise17_ofTwoSnapshots() {
        OrderedVersions x = moved();
        x.snapshot();
        x.cut(LEAST, MOST);
        Check.due("one way", x.differs(1, 2), 3);
        Check.due("other way", x.differs(2, 1), 3);
    }

    @Says(promise = 17, words = "IndexOutOfBounds: there are no such versions")
    static void promise17_noSuchVersions() {
        Sample.needsVersion((x, version) -> x.differs(version, 0));
        Sample.needsVersion((x, version) -> x.differs(0, version));
        Sample.needsVersion((x, version) -> x.differs(version, version));
    }

    private static void differ(OrderedVersions x, int due) {
        Check.due("0 from 1", x.differs(0, 1), due);
        Check.due("1 from 0", x.differs(1, 0), due);
    }

    // Promise 18: firstDifference

    @Says(promise = 18, words = "The least int by which two versions differ so")
    static void promise18_byAKeyOfJustOne() {
        OrderedVersions x = Sample.five();
        x.snapshot();
        x.put(MOST, 0);
        firstDiffer(x, MOST);
        x.put(60, 6);
        firstDiffer(x, 60);
        x.remove(50);
        firstDiffer(x, 50);
        x.put(25, 0);
        firstDiffer(x, 25);
        x.remove(10);
        firstDiffer(x, 10);
        x.put(LEAST, 0);
        firstDiffer(x, LEAST);
    }

    @Says(promise = 18, words = "The least int by which two versions differ so")
    static void promise18_byAnotherValue() {
        OrderedVersions x = Sample.five();
        x.snapshot();
        x.put(50, 0);
        firstDiffer(x, 50);
        x.put(10, 0);
        firstDiffer(x, 10);
        x.put(10, 1);
        firstDiffer(x, 50);
    }

    @Says(promise = 18, words = "The least int by which two versions differ so")
    static void promise18_ofDifferencesOfBothKindsTheLeast() {
        OrderedVersions x = moved();
        firstDiffer(x, 20);
        x.put(20, -2);
        firstDiffer(x, 30);
        x.put(30, 3);
        firstDiffer(x, 60);
    }

    @Says(promise = 18, words = "The least int by which two versions differ so")
    static void promise18_fromAnEmptyVersionTheLeastKey() {
        OrderedVersions x = Sample.five();
        x.snapshot();
        x.cut(LEAST, MOST);
        firstDiffer(x, 10);
    }

    @Says(promise = 18, words = "The least int by which two versions differ so")
    static void promise18_atTheLastOf600() {
        OrderedVersions x = Sample.full();
        x.snapshot();
        x.put(599, 0);
        firstDiffer(x, 599);
        x.remove(599);
        firstDiffer(x, 599);
        x.put(700, 0);
        firstDiffer(x, 599);
    }

    @Says(promise = 18, words = "IndexOutOfBounds: there are no such versions")
    static void promise18_noSuchVersions() {
        Sample.needsVersion((x, version) -> x.firstDifference(version, 0));
        Sample.needsVersion((x, version) -> x.firstDifference(0, version));
    }

    @Says(promise = 18, words = "IndexOutOfBounds: there are no such versions")
    static void promise18_noSuchVersionsComeBeforeNoDifference() {
        Sample.needsVersion((x, version) -> x.firstDifference(version, version));
    }

    @Says(promise = 18, words = "NoSuchElement: there is none")
    static void promise18_versionsThatDoNotDifferAreRefused() {
        OrderedVersions x = Sample.five();
        x.snapshot();
        Check.refused("0 and 1", Check.NO_ELEMENT, () -> x.firstDifference(0, 1));
        Check.refused("1 and 0", Check.NO_ELEMENT, () -> x.firstDifference(1, 0));
        Check.refused("0 and 0", Check.NO_ELEMENT, () -> x.firstDifference(0, 0));
        Check.refused("1 and 1", Check.NO_ELEMENT, () -> x.firstDifference(1, 1));
        x.put(30, 0);
        x.put(30, 3);
        Check.refused("there and back", Check.NO_ELEMENT, () -> x.firstDifference(0, 1));
    }

    @Says(promise = 18, words = "NoSuchElement: there is none")
    static void promise18_emptyAndFullVersionsThatDoNotDifferAreRefused() {
        OrderedVersions x = new OrderedVersions();
        x.snapshot();
        Check.refused("empty", Check.NO_ELEMENT, () -> x.firstDifference(0, 1));
        OrderedVersions y = Sample.full();
        y.snapshot();
        Check.refused("full", Check.NO_ELEMENT, () -> y.firstDifference(0, 1));
    }

    private static void firstDiffer(OrderedVersions x, int due) {
        Check.due("0 and 1", x.firstDifference(0, 1), due);
        Check.due("1 and 0", x.firstDifference(1, 0), due);
    }
}
