/** Promises 19 to 23: cursors, opened, moved, looked at and closed. */
public final class CursorsTest {
    private static final int LEAST = Sample.LEAST;
    private static final int MOST = Sample.MOST;

    private CursorsTest() {
    }

    public static void main(String[] args) throws IllegalAccessException {
        Sentences.run(CursorsTest.class);
    }

    // Promise 19: open

    @Says(promise = 19, words = "A cursor on a version, before the least key that is not below an int")
    static void promise19_upwardAtKeysAndBetweenThem() {
        opens(LEAST, false, "10 20 30 40 50");
        opens(10, false, "10 20 30 40 50");
        opens(11, false, "20 30 40 50");
        opens(20, false, "20 30 40 50");
        opens(49, false, "50");
        opens(50, false, "50");
    }

    @Says(promise = 19, words = "or (down) the greatest one that is not above it")
    static void promise19_downwardAtKeysAndBetweenThem() {
        opens(MOST, true, "50 40 30 20 10");
        opens(50, true, "50 40 30 20 10");
        opens(49, true, "40 30 20 10");
        opens(20, true, "20 10");
        opens(11, true, "10");
        opens(10, true, "10");
    }

    @Says(promise = 19, words = "at the end if there is none")
    static void promise19_upwardAboveAllKeysItIsAtTheEnd() {
        opens(51, false, "");
        opens(MOST, false, "");
    }

    @Says(promise = 19, words = "at the end if there is none")
    static void promise19_downwardBelowAllKeysItIsAtTheEnd() {
        opens(9, true, "");
        opens(LEAST, true, "");
    }

    @Says(promise = 19, words = "at the end if there is none")
    static void promise19_inAnEmptyMapItIsAtTheEnd() {
        int[] ints = {LEAST, 0, MOST};
        for (int key : ints) {
            OrderedVersions x = new OrderedVersions();
            x.open(0, key, false);
            x.open(0, key, true);
            x.put(key, 1);
            Check.same("upward from " + key, Sample.rest(x, 0), "");
            Check.same("downward from " + key, Sample.rest(x, 1), "");
        }
    }

    @Says(promise = 19, words = "the least key that is not below an int, or (down) the greatest one that is not above it")
    static void promise19_atTheLeastAndTheGreatestInt() {
        OrderedVersions x = Sample.ends();
        x.open(0, LEAST, false);
        x.open(0, MOST, true);
        x.open(0, MOST, false);
        x.open(0, LEAST, true);
        Check.same("upward from the least", Sample.rest(x, 0), LEAST + " 0 " + MOST);
        Check.same("downward from the greatest", Sample.rest(x, 1), MOST + " 0 " + LEAST);
        Check.same("upward from the greatest", Sample.rest(x, 2), "" + MOST);
        Check.same("downward from the least", Sample.rest(x, 3), "" + LEAST);
    }

    @Says(promise = 19, words = "A cursor on a version")
    static void promise19_onASnapshotThatIsNotAsThePresentMapIs() {
        OrderedVersions x = Sample.five();
        x.snapshot();
        x.load(25, 1, 3, 0, 0);
        x.open(1, 25, false);
        x.open(1, 25, true);
        x.open(0, 26, false);
        Check.same("snapshot upward", Sample.rest(x, 0), "30 40 50");
        Check.same("snapshot downward", Sample.rest(x, 1), "20 10");
        Check.same("present map", Sample.rest(x, 2), "26 27");
    }

    @Says(promise = 19, words = "A cursor on a version")
    static void promise19_on600Keys() {
        OrderedVersions x = Sample.full();
        x.open(0, 0, false);
        x.open(0, 599, true);
        x.open(0, 599, false);
        Check.due("upward, all", x.skip(0, MOST), 600);
        Check.due("downward, all", x.skip(1, MOST), 600);
        Check.due("upward, the last", x.skip(2, MOST), 1);
    }

    @Says(promise = 19, words = "its number")
    static void promise19_theNumbersAre0To7() {
        OrderedVersions x = Sample.five();
        for (int number = 0; number < 8; number++) {
            Check.due("number", x.open(0, 10, number % 2 == 0), number);
        }
    }

    @Says(promise = 19, words = "its number")
    static void promise19_theNumberIsTheLeastFreeOne() {
        for (int number = 0; number < 8; number++) {
            OrderedVersions x = Sample.crowded();
            x.close(number);
            Check.due("number", x.open(0, 10, false), number);
        }
    }

    @Says(promise = 19, words = "its number")
    static void promise19_aNumberUsedAgainHasItsNewPlaceAndDirection() {
        OrderedVersions x = Sample.five();
        x.open(0, 30, false);
        x.skip(0, 1);
        x.close(0);
        Check.due("number", x.open(0, 30, true), 0);
        Check.same("downward now", Sample.rest(x, 0), "30 20 10");
        x.close(0);
        x.put(35, 0);
        Check.due("number again", x.open(0, 30, false), 0);
        Check.same("upward again", Sample.rest(x, 0), "30 35 40 50");
    }

    @Says(promise = 19, words = "IndexOutOfBounds: there is no such version")
    static void promise19_noSuchVersion() {
        Sample.needsVersion((x, version) -> x.open(version, 10, false));
        Sample.needsVersion((x, version) -> x.open(version, 10, true));
    }

    @Says(promise = 19, words = "IndexOutOfBounds: there is no such version")
    static void promise19_noSuchVersionComesBeforeTooManyCursors() {
        OrderedVersions x = Sample.crowded();
        Check.refused("version 13", Check.NO_INDEX, () -> x.open(13, 10, false));
        Check.refused("version -1", Check.NO_INDEX, () -> x.open(-1, 10, false));
        Check.refused("version 12", Check.TOO_MANY, () -> x.open(12, 10, false));
    }

    @Says(promise = 19, words = "UnsupportedOperation: there are 8")
    static void promise19_aNinthIsRefused() {
        OrderedVersions x = Sample.crowded();
        Check.refused("upward", Check.TOO_MANY, () -> x.open(0, 10, false));
        Check.refused("downward", Check.TOO_MANY, () -> x.open(1, 10, true));
        Check.refused("at the end", Check.TOO_MANY, () -> x.open(0, MOST, false));
        Check.same("the eighth stays", Sample.rest(x, 7), "10 20 30 40 50");
    }

    @Says(promise = 19, words = "UnsupportedOperation: there are 8")
    static void promise19_cursorsAtTheEndCount() {
        OrderedVersions x = new OrderedVersions();
        for (int i = 0; i < 8; i++) {
            x.open(0, 0, false);
        }
        Check.refused("ninth", Check.TOO_MANY, () -> x.open(0, 0, false));
    }

    @Says(promise = 19, words = "UnsupportedOperation: there are 8")
    static void promise19_thereIsRoomAgainAfterAClose() {
        OrderedVersions x = Sample.crowded();
        x.close(4);
        Check.due("eighth", x.open(0, 50, false), 4);
        Check.refused("ninth", Check.TOO_MANY, () -> x.open(0, 50, false));
    }

    private static void opens(int key, boolean down, String due) {
        OrderedVersions x = Sample.five();
        x.open(0, key, down);
        Check.same("from " + key, Sample.rest(x, 0), due);
    }

    // Promise 20: next

    @Says(promise = 20, words = "The key before which a cursor stands; it goes on")
    static void promise20_upwardKeyByKey() {
        OrderedVersions x = Sample.five();
        x.open(0, 30, false);
        Check.due("first", x.next(0), 30);
        Check.due("value of the second", x.peek(0), -4);
        Check.due("second", x.next(0), 40);
        Check.due("third", x.next(0), 50);
    }

    @Says(promise = 20, words = "The key before which a cursor stands; it goes on")
    static void promise20_downwardKeyByKey() {
        OrderedVersions x = Sample.five();
        x.open(0, 30, true);
        Check.due("first", x.next(0), 30);
        Check.due("value of the second", x.peek(0), -2);
        Check.due("second", x.next(0), 20);
        Check.due("third", x.next(0), 10);
    }

    @Says(promise = 20, words = "The key before which a cursor stands; it goes on")
    static void promise20_otherCursorsStayWhereTheyAre() {
        OrderedVersions x = Sample.crowded();
        x.next(3);
        x.next(3);
        for (int cursor = 0; cursor < 8; cursor++) {
            Check.due("cursor " + cursor, x.next(cursor), cursor == 3 ? 30 : 10);
        }
    }

    @Says(promise = 20, words = "IndexOutOfBounds: there is no such cursor")
    static void promise20_noSuchCursor() {
        Sample.needsCursor(OrderedVersions::next);
    }

    @Says(promise = 20, words = "NoSuchElement: it is at the end")
    static void promise20_behindTheLastKeyItIsRefused() {
        OrderedVersions x = Sample.five();
        x.open(0, 50, false);
        x.open(0, 10, true);
        for (int cursor = 0; cursor < 2; cursor++) {
            int number = cursor;
            x.next(number);
            Check.refused("once", Check.NO_ELEMENT, () -> x.next(number));
            Check.refused("twice", Check.NO_ELEMENT, () -> x.next(number));
        }
    }

    @Says(promise = 20, words = "NoSuchElement: it is at the end")
    static void promise20_openedAtTheEndItIsRefused() {
        OrderedVersions x = Sample.five();
        x.open(0, 51, false);
        x.open(0, 9, true);
        Check.refused("upward", Check.NO_ELEMENT, () -> x.next(0));
        Check.refused("downward", Check.NO_ELEMENT, () -> x.next(1));
    }

    @Says(promise = 20, words = "NoSuchElement: it is at the end")
    static void promise20_aKeyThatComesLaterIsNotSeen() {
        OrderedVersions x = Sample.five();
        x.open(0, 50, false);
        x.open(0, 10, true);
        x.put(60, 6);
        x.put(5, 6);
        Check.same("upward", Sample.rest(x, 0), "50");
        Check.same("downward", Sample.rest(x, 1), "10");
    }

    @Says(promise = 20, words = "NoSuchElement: it is at the end")
    static void promise20_skippedToTheEndItIsRefused() {
        OrderedVersions x = Sample.five();
        x.open(0, 10, false);
        x.skip(0, 5);
        Check.refused("next", Check.NO_ELEMENT, () -> x.next(0));
    }

    // Promise 21: skip

    @Says(promise = 21, words = "A cursor goes on over n keys")
    static void promise21_upwardAndDownward() {
        OrderedVersions x = Sample.five();
        x.open(0, 10, false);
        x.open(0, 50, true);
        Check.due("upward", x.skip(0, 2), 2);
        Check.due("downward", x.skip(1, 3), 3);
        Check.same("left upward", Sample.rest(x, 0), "30 40 50");
        Check.same("left downward", Sample.rest(x, 1), "20 10");
    }

    @Says(promise = 21, words = "A cursor goes on over n keys")
    static void promise21_over0KeysItStays() {
        OrderedVersions x = Sample.five();
        x.open(0, 20, false);
        x.open(0, MOST, false);
        Check.due("before a key", x.skip(0, 0), 0);
        Check.due("at the end", x.skip(1, 0), 0);
        Check.due("it stands there yet", x.next(0), 20);
    }

    @Says(promise = 21, words = "A cursor goes on over n keys")
    static void promise21_otherCursorsStayWhereTheyAre() {
        OrderedVersions x = Sample.crowded();
        x.skip(3, 4);
        for (int cursor = 0; cursor < 8; cursor++) {
            Check.due("cursor " + cursor, x.next(cursor), cursor == 3 ? 50 : 10);
        }
    }

    @Says(promise = 21, words = "or as many as there are: how many")
    static void promise21_justToTheEndAndFarBeyond() {
        int[] counts = {4, 5, 6, 600, MOST};
        for (int n : counts) {
            OrderedVersions x = Sample.five();
            x.open(0, 10, false);
            x.open(0, 50, true);
            Check.due("upward " + n, x.skip(0, n), Math.min(n, 5));
            Check.due("downward " + n, x.skip(1, n), Math.min(n, 5));
            Check.same("left upward " + n, Sample.rest(x, 0), n == 4 ? "50" : "");
            Check.same("left downward " + n, Sample.rest(x, 1), n == 4 ? "10" : "");
        }
    }

    @Says(promise = 21, words = "or as many as there are: how many")
    static void promise21_atTheEndThereAreNone() {
        OrderedVersions x = Sample.five();
        x.open(0, 51, false);
        x.open(0, 9, true);
        Check.due("upward by 1", x.skip(0, 1), 0);
        Check.due("downward by 1", x.skip(1, 1), 0);
        Check.due("upward by most", x.skip(0, MOST), 0);
        Check.due("downward by most", x.skip(1, MOST), 0);
    }

    @Says(promise = 21, words = "or as many as there are: how many")
    static void promise21_thereAreThoseOfTheMapAsItWas() {
        OrderedVersions x = Sample.five();
        x.open(0, 10, false);
        x.load(0, 1, 600, 0, 0);
        Check.due("skip", x.skip(0, MOST), 5);
    }

    @Says(promise = 21, words = "or as many as there are: how many")
    static void promise21_over600Keys() {
        OrderedVersions x = Sample.full();
        x.open(0, 0, false);
        Check.due("599", x.skip(0, 599), 599);
        Check.due("the last", x.skip(0, 599), 1);
    }

    @Says(promise = 21, words = "IndexOutOfBounds: there is no such cursor")
    static void promise21_noSuchCursor() {
        Sample.needsCursor((x, cursor) -> x.skip(cursor, 1));
        Sample.needsCursor((x, cursor) -> x.skip(cursor, 0));
    }

    @Says(promise = 21, words = "IndexOutOfBounds: there is no such cursor")
    static void promise21_noSuchCursorComesBeforeNBelow0() {
        Sample.needsCursor((x, cursor) -> x.skip(cursor, -1));
    }

    @Says(promise = 21, words = "IllegalArgument: n is below 0")
    static void promise21_nBelow0IsRefused() {
        OrderedVersions x = Sample.five();
        x.open(0, 20, false);
        x.next(0);
        Check.refused("-1", Check.BAD_ARGUMENT, () -> x.skip(0, -1));
        Check.refused("least", Check.BAD_ARGUMENT, () -> x.skip(0, LEAST));
        Check.due("it stands where it stood", x.next(0), 30);
    }

    @Says(promise = 21, words = "IllegalArgument: n is below 0")
    static void promise21_nBelow0IsRefusedAtTheEndToo() {
        OrderedVersions x = Sample.five();
        x.open(0, 51, false);
        Check.refused("-1", Check.BAD_ARGUMENT, () -> x.skip(0, -1));
        Check.refused("it is at the end yet", Check.NO_ELEMENT, () -> x.next(0));
    }

    // Promise 22: peek

    @Says(promise = 22, words = "of the key before which a cursor stands")
    static void promise22_theCursorStays() {
        OrderedVersions x = Sample.five();
        x.open(0, 40, false);
        x.open(0, 20, true);
        Check.due("upward", x.peek(0), -4);
        Check.due("upward again", x.peek(0), -4);
        Check.due("downward", x.peek(1), -2);
        Check.due("downward again", x.peek(1), -2);
        Check.due("key upward", x.next(0), 40);
        Check.due("key downward", x.next(1), 20);
        Check.due("the last upward", x.peek(0), 5);
        Check.due("the last downward", x.peek(1), 1);
    }

    @Says(promise = 22, words = "The value, in the map that it goes over")
    static void promise22_theValueIsThatOfTheMapAsItWas() {
        OrderedVersions x = Sample.five();
        x.snapshot();
        x.put(30, 33);
        x.open(0, 30, false);
        x.open(1, 30, false);
        x.put(30, 333);
        Check.due("present map", x.peek(0), 33);
        Check.due("snapshot", x.peek(1), 3);
        x.remove(30);
        x.release(1);
        Check.due("gone from the present map", x.peek(0), 33);
        Check.due("gone with the snapshot", x.peek(1), 3);
    }

    @Says(promise = 22, words = "The value, in the map that it goes over")
    static void promise22_leastAndGreatestInts() {
        OrderedVersions x = new OrderedVersions();
        x.put(LEAST, MOST);
        x.put(MOST, LEAST);
        x.open(0, LEAST, false);
        Check.due("at the least key", x.peek(0), MOST);
        x.next(0);
        Check.due("at the greatest key", x.peek(0), LEAST);
    }

    @Says(promise = 22, words = "IndexOutOfBounds: there is no such cursor")
    static void promise22_noSuchCursor() {
        Sample.needsCursor(OrderedVersions::peek);
    }

    @Says(promise = 22, words = "NoSuchElement: it is at the end")
    static void promise22_atTheEndItIsRefused() {
        OrderedVersions x = Sample.five();
        x.open(0, 51, false);
        x.open(0, 9, true);
        x.open(0, 50, false);
        x.open(0, 10, true);
        x.next(2);
        x.skip(3, 1);
        for (int cursor = 0; cursor < 4; cursor++) {
            int number = cursor;
            Check.refused("cursor " + number, Check.NO_ELEMENT, () -> x.peek(number));
        }
    }

    @Says(promise = 22, words = "NoSuchElement: it is at the end")
    static void promise22_inAnEmptyMapItIsRefused() {
        OrderedVersions x = new OrderedVersions();
        x.open(0, 0, false);
        x.put(0, 1);
        Check.refused("peek", Check.NO_ELEMENT, () -> x.peek(0));
    }

    // Promise 23: close

    @Says(promise = 23, words = "A cursor goes")
    static void promise23_itIsNoCursorAnyMore() {
        OrderedVersions x = Sample.five();
        x.open(0, 10, false);
        x.close(0);
        Check.refused("next", Check.NO_INDEX, () -> x.next(0));
        Check.refused("skip", Check.NO_INDEX, () -> x.skip(0, 0));
        Check.refused("peek", Check.NO_INDEX, () -> x.peek(0));
        Check.refused("close", Check.NO_INDEX, () -> x.close(0));
    }

    @Says(promise = 23, words = "A cursor goes")
    static void promise23_theOthersAndTheMapsStay() {
        OrderedVersions x = Sample.five();
        x.snapshot();
        x.open(0, 10, false);
        x.open(0, 20, false);
        x.open(1, 30, true);
        x.close(1);
        Check.same("the one before", Sample.rest(x, 0), "10 20 30 40 50");
        Check.same("the one behind", Sample.rest(x, 2), "30 20 10");
        Check.same("present map", Sample.map(x, 0), Sample.FIVE);
        Check.same("snapshot", Sample.map(x, 1), Sample.FIVE);
    }

    @Says(promise = 23, words = "how many are left")
    static void promise23_theAnswerCountsDownTo0() {
        OrderedVersions x = Sample.crowded();
        int[] order = {7, 0, 3, 6, 1, 5, 2, 4};
        for (int i = 0; i < 8; i++) {
            Check.due("close " + order[i], x.close(order[i]), 7 - i);
        }
    }

    @Says(promise = 23, words = "how many are left")
    static void promise23_cursorsAtTheEndCount() {
        OrderedVersions x = Sample.five();
        x.open(0, 51, false);
        x.open(0, 10, false);
        x.open(0, 50, false);
        x.next(2);
        Check.due("two at the end", x.close(1), 2);
        Check.due("one at the end", x.close(0), 1);
        Check.due("none", x.close(2), 0);
    }

    @Says(promise = 23, words = "how many are left")
    static void promise23_snapshotsDoNotCount() {
        OrderedVersions x = Sample.five();
        x.snapshot();
        x.snapshot();
        x.open(1, 10, false);
        Check.due("none", x.close(0), 0);
    }

    @Says(promise = 23, words = "IndexOutOfBounds: there is no such cursor")
    static void promise23_noSuchCursor() {
        Sample.needsCursor(OrderedVersions::close);
    }

    @Says(promise = 23, words = "IndexOutOfBounds: there is no such cursor")
    static void promise23_theSecondCloseIsRefused() {
        OrderedVersions x = Sample.crowded();
        x.close(7);
        Check.refused("close 7", Check.NO_INDEX, () -> x.close(7));
        x.close(0);
        Check.refused("close 0", Check.NO_INDEX, () -> x.close(0));
        Check.due("those left", x.close(1), 5);
    }
}
