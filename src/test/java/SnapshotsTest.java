/** Promises 7 to 9: snapshots, taken, released and restored. */
public final class SnapshotsTest {
    private static final int LEAST = Sample.LEAST;
    private static final int MOST = Sample.MOST;

    private SnapshotsTest() {
    }

    public static void main(String[] args) throws IllegalAccessException {
        Sentences.run(SnapshotsTest.class);
    }

    // Promise 7: snapshot

    @Says(promise = 7, words = "A snapshot of the present map")
    static void promise7_itIsAsThePresentMapIs() {
        OrderedVersions x = Sample.five();
        x.snapshot();
        Check.same("snapshot", Sample.map(x, 1), Sample.FIVE);
        Check.same("present map", Sample.map(x, 0), Sample.FIVE);
        Check.due("differs", x.differs(0, 1), 0);
    }

    @Says(promise = 7, words = "A snapshot of the present map")
    static void promise7_ofAnEmptyMap() {
        OrderedVersions x = new OrderedVersions();
        Check.due("number", x.snapshot(), 1);
        x.put(1, 1);
        Check.due("size", x.size(1), 0);
        Check.refused("select", Check.NO_ELEMENT, () -> x.select(1, 0));
    }

    @Says(promise = 7, words = "A snapshot of the present map")
    static void promise7_of600Keys() {
        OrderedVersions x = Sample.full();
        x.snapshot();
        x.cut(LEAST, MOST);
        Check.due("size", x.size(1), 600);
        Check.due("sum", x.sum(1, LEAST, MOST), 599 * 600 / 2);
        Check.due("last", x.select(1, 599), 599);
    }

    @Says(promise = 7, words = "A snapshot of the present map")
    static void promise7_eachIsOfItsOwnTime() {
        OrderedVersions x = new OrderedVersions();
        for (int number = 1; number <= 12; number++) {
            x.put(7, number);
            x.snapshot();
        }
        x.put(7, 99);
        for (int number = 1; number <= 12; number++) {
            Check.due("value in " + number, x.get(number, 7), number);
        }
    }

    @Says(promise = 7, words = "A snapshot of the present map")
    static void promise7_aNumberUsedAgainHasTheNewMapAlone() {
        OrderedVersions x = Sample.full();
        x.snapshot();
        x.release(1);
        x.load(0, 1, 0, 0, 0);
        Sample.putFive(x);
        Check.due("number", x.snapshot(), 1);
        Check.same("map", Sample.map(x, 1), Sample.FIVE);
        x.release(1);
        x.cut(LEAST, MOST);
        Check.due("number of an empty one", x.snapshot(), 1);
        Check.due("size of an empty one", x.size(1), 0);
    }

    @Says(promise = 7, words = "its number")
    static void promise7_theNumbersAre1To12() {
        OrderedVersions x = new OrderedVersions();
        for (int number = 1; number <= 12; number++) {
            Check.due("number", x.snapshot(), number);
        }
    }

    @Says(promise = 7, words = "its number")
    static void promise7_theNumberIsTheLeastFreeOne() {
        for (int number = 1; number <= 12; number++) {
            OrderedVersions x = Sample.crowded();
            x.release(number);
            Check.due("number", x.snapshot(), number);
        }
    }

    @Says(promise = 7, words = "UnsupportedOperation: there are 12")
    static void promise7_aThirteenthIsRefused() {
        OrderedVersions x = Sample.crowded();
        x.put(60, 6);
        Check.refused("thirteenth", Check.TOO_MANY, x::snapshot);
        Check.refused("again", Check.TOO_MANY, x::snapshot);
        Check.due("the twelfth stays", x.size(12), 5);
        Check.due("the first stays", x.size(1), 5);
        Check.due("the present map stays", x.size(0), 6);
    }

    @Says(promise = 7, words = "UnsupportedOperation: there are 12")
    static void promise7_thereIsRoomAgainAfterARelease() {
        OrderedVersions x = Sample.crowded();
        x.release(5);
        Check.due("twelfth", x.snapshot(), 5);
        Check.refused("thirteenth", Check.TOO_MANY, x::snapshot);
    }

    // Promise 8: release

    @Says(promise = 8, words = "A snapshot goes")
    static void promise8_itIsNoVersionAnyMore() {
        OrderedVersions x = Sample.five();
        x.snapshot();
        x.release(1);
        Check.refused("size", Check.NO_INDEX, () -> x.size(1));
        Check.refused("restore", Check.NO_INDEX, () -> x.restore(1));
        Check.refused("merge", Check.NO_INDEX, () -> x.merge(1));
        Check.refused("open", Check.NO_INDEX, () -> x.open(1, 0, false));
        Check.refused("differs", Check.NO_INDEX, () -> x.differs(0, 1));
    }

    @Says(promise = 8, words = "A snapshot goes")
    static void promise8_theOtherMapsStay() {
        OrderedVersions x = Sample.five();
        x.snapshot();
        x.put(60, 6);
        x.snapshot();
        x.put(70, 7);
        x.snapshot();
        x.open(2, 60, true);
        x.release(2);
        Check.same("present map", Sample.map(x, 0), Sample.FIVE + " 60=6 70=7");
        Check.same("the one before", Sample.map(x, 1), Sample.FIVE);
        Check.same("the one behind", Sample.map(x, 3), Sample.FIVE + " 60=6 70=7");
        Check.same("its cursor", Sample.rest(x, 0), "60 50 40 30 20 10");
    }

    @Says(promise = 8, words = "how many are left")
    static void promise8_theAnswerCountsDownTo0() {
        OrderedVersions x = Sample.crowded();
        int[] order = {12, 1, 7, 2, 11, 3, 6, 10, 4, 5, 9, 8};
        for (int i = 0; i < 12; i++) {
            Check.due("release " + order[i], x.release(order[i]), 11 - i);
        }
    }

    @Says(promise = 8, words = "how many are left")
    static void promise8_thePresentMapDoesNotCount() {
        OrderedVersions x = Sample.five();
        x.snapshot();
        Check.due("none left", x.release(1), 0);
    }

    @Says(promise = 8, words = "how many are left")
    static void promise8_cursorsDoNotCount() {
        OrderedVersions x = Sample.five();
        x.snapshot();
        x.snapshot();
        x.open(1, 0, false);
        x.open(2, 0, false);
        Check.due("one left", x.release(1), 1);
    }

    @Says(promise = 8, words = "IndexOutOfBounds: there is no such snapshot")
    static void promise8_noSuchSnapshot() {
        Sample.needsSnapshot(OrderedVersions::release);
    }

    @Says(promise = 8, words = "IndexOutOfBounds: there is no such snapshot")
    static void promise8_version0IsNoSnapshot() {
        Check.refused("alone", Check.NO_INDEX, () -> Sample.five().release(0));
        OrderedVersions x = Sample.crowded();
        Check.refused("among 12", Check.NO_INDEX, () -> x.release(0));
        Check.same("present map", Sample.map(x, 0), Sample.FIVE);
    }

    @Says(promise = 8, words = "IndexOutOfBounds: there is no such snapshot")
    static void promise8_theSecondReleaseIsRefused() {
        OrderedVersions x = Sample.crowded();
        x.release(12);
        Check.refused("release 12", Check.NO_INDEX, () -> x.release(12));
        x.release(1);
        Check.refused("release 1", Check.NO_INDEX, () -> x.release(1));
        Check.due("those left", x.release(2), 9);
    }

    // Promise 9: restore

    @Says(promise = 9, words = "The present map becomes as a snapshot is")
    static void promise9_fromMoreKeysAndFromFewer() {
        OrderedVersions x = Sample.five();
        x.snapshot();
        x.load(0, 1, 600, 0, 9);
        x.restore(1);
        Check.same("from 600", Sample.map(x, 0), Sample.FIVE);
        x.cut(LEAST, MOST);
        x.restore(1);
        Check.same("from none", Sample.map(x, 0), Sample.FIVE);
        x.put(10, 7);
        x.restore(1);
        Check.same("from another value", Sample.map(x, 0), Sample.FIVE);
    }

    @Says(promise = 9, words = "The present map becomes as a snapshot is")
    static void promise9_theSnapshotStaysApart() {
        OrderedVersions x = Sample.five();
        x.snapshot();
        x.restore(1);
        x.put(10, 9);
        x.remove(50);
        Check.same("snapshot", Sample.map(x, 1), Sample.FIVE);
        x.release(1);
        Check.same("present map", Sample.map(x, 0), "10=9 20=-2 30=3 40=-4");
    }

    @Says(promise = 9, words = "The present map becomes as a snapshot is")
    static void promise9_snapshotsAndCursorsStay() {
        OrderedVersions x = Sample.five();
        x.snapshot();
        x.put(60, 6);
        x.snapshot();
        x.open(0, 50, false);
        x.restore(1);
        Check.due("the other snapshot", x.size(2), 6);
        Check.same("cursor", Sample.rest(x, 0), "50 60");
        Check.due("no number is taken", x.snapshot(), 3);
    }

    @Says(promise = 9, words = "how many keys it has")
    static void promise9_theAnswerIsTheSnapshotsSize() {
        OrderedVersions x = new OrderedVersions();
        x.snapshot();
        Sample.putFive(x);
        x.snapshot();
        x.load(0, 1, 600, 0, 9);
        x.snapshot();
        Check.due("of none", x.restore(1), 0);
        Check.due("size of none", x.size(0), 0);
        Check.due("of 600", x.restore(3), 600);
        Check.due("size of 600", x.size(0), 600);
        Check.due("sum of 600", x.sum(0, LEAST, MOST), 5400);
        Check.due("of five", x.restore(2), 5);
        Check.due("of five again", x.restore(2), 5);
    }

    @Says(promise = 9, words = "IndexOutOfBounds: there is no such snapshot")
    static void promise9_noSuchSnapshot() {
        Sample.needsSnapshot(OrderedVersions::restore);
    }

    @Says(promise = 9, words = "IndexOutOfBounds: there is no such snapshot")
    static void promise9_version0IsNoSnapshot() {
        Check.refused("alone", Check.NO_INDEX, () -> Sample.five().restore(0));
        Check.refused("among 12", Check.NO_INDEX, () -> Sample.crowded().restore(0));
    }

    @Says(promise = 9, words = "IndexOutOfBounds: there is no such snapshot")
    static void promise9_aReleasedOneIsRefused() {
        OrderedVersions x = Sample.five();
        x.snapshot();
        x.put(60, 6);
        x.release(1);
        Check.refused("restore", Check.NO_INDEX, () -> x.restore(1));
        Check.due("size", x.size(0), 6);
    }
}
