/** Promises 1 to 6: a new object, and the calls that change its present map by keys. */
public final class ChangesTest {
    private static final int LEAST = Sample.LEAST;
    private static final int MOST = Sample.MOST;

    private ChangesTest() {
    }

    public static void main(String[] args) throws IllegalAccessException {
        Sentences.run(ChangesTest.class);
    }

    // Promise 1: a new object

    @Says(promise = 1, words = "An empty present map")
    static void promise1_thePresentMapAnswersAsAnEmptyOne() {
        OrderedVersions x = new OrderedVersions();
        Check.due("size", x.size(0), 0);
        Check.due("rank", x.rank(0, MOST), 0);
        Check.due("sum", x.sum(0, LEAST, MOST), 0);
        Check.due("cut", x.cut(LEAST, MOST), 0);
        Check.due("merge", x.merge(0), 0);
        Check.due("differs", x.differs(0, 0), 0);
        Check.due("load", x.load(0, 1, 0, 1, 1), 0);
    }

    @Says(promise = 1, words = "An empty present map")
    static void promise1_thePresentMapHasNoKeyToAnswer() {
        OrderedVersions x = new OrderedVersions();
        int[] ints = {LEAST, -1, 0, 1, MOST};
        for (int key : ints) {
            Check.refused("get " + key, Check.NO_ELEMENT, () -> x.get(0, key));
            Check.refused("remove " + key, Check.NO_ELEMENT, () -> x.remove(key));
            Check.refused("select " + key, Check.NO_ELEMENT, () -> x.select(0, key));
            Check.refused("near " + key, Check.NO_ELEMENT, () -> x.near(0, key, false));
            Check.refused("near above " + key, Check.NO_ELEMENT, () -> x.near(0, key, true));
        }
        Check.refused("greatest", Check.NO_ELEMENT, () -> x.greatest(0, LEAST, MOST));
        Check.refused("firstDifference", Check.NO_ELEMENT, () -> x.firstDifference(0, 0));
    }

    @Says(promise = 1, words = "nothing else")
    static void promise1_thereIsNoSnapshot() {
        OrderedVersions x = new OrderedVersions();
        for (int version = 1; version <= 13; version++) {
            int number = version;
            Check.refused("version " + number, Check.NO_INDEX, () -> x.size(number));
            Check.refused("restore " + number, Check.NO_INDEX, () -> x.restore(number));
        }
        Check.due("the first one's number", x.snapshot(), 1);
        Check.due("none left", x.release(1), 0);
    }

    @Says(promise = 1, words = "nothing else")
    static void promise1_thereIsNoCursor() {
        OrderedVersions x = new OrderedVersions();
        for (int cursor = 0; cursor <= 8; cursor++) {
            int number = cursor;
            Check.refused("cursor " + number, Check.NO_INDEX, () -> x.skip(number, 0));
        }
        Check.due("the first one's number", x.open(0, 0, false), 0);
        Check.due("none left", x.close(0), 0);
    }

    @Says(promise = 1, words = "nothing else")
    static void promise1_objectsShareNothing() {
        OrderedVersions x = Sample.crowded();
        OrderedVersions y = new OrderedVersions();
        Check.due("keys", y.size(0), 0);
        Check.due("snapshots", y.snapshot(), 1);
        Check.due("cursors", y.open(0, 0, false), 0);
        y.put(10, 99);
        Check.same("the other one's keys", Sample.map(x, 0), Sample.FIVE);
    }

    // Promise 2: put

    @Says(promise = 2, words = "A key of the present map has a value from now on")
    static void promise2_aNewKeyHasItsValueWhereverItComes() {
        int[] keys = {LEAST, 9, 11, 25, 49, 51, MOST};
        for (int key : keys) {
            OrderedVersions x = Sample.five();
            x.put(key, 77);
            Check.due("value of " + key, x.get(0, key), 77);
            Check.due("rank of " + key, x.select(0, x.rank(0, key)), key);
            x.remove(key);
            Check.same("the others beside " + key, Sample.map(x, 0), Sample.FIVE);
        }
    }

    @Says(promise = 2, words = "A key of the present map has a value from now on")
    static void promise2_anOldKeyHasItsNewValue() {
        OrderedVersions x = Sample.five();
        x.put(10, LEAST);
        x.put(30, 0);
        x.put(50, MOST);
        Check.same("map", Sample.map(x, 0), "10=-2147483648 20=-2 30=0 40=-4 50=2147483647");
    }

    @Says(promise = 2, words = "A key of the present map has a value from now on")
    static void promise2_onlyThePresentMapHasIt() {
        OrderedVersions x = Sample.five();
        x.snapshot();
        x.put(30, 9);
        x.put(60, 9);
        Check.same("snapshot", Sample.map(x, 1), Sample.FIVE);
    }

    @Says(promise = 2, words = "whether it is a new key")
    static void promise2_aNewKeyIsTrueAndAnOldOneFalse() {
        OrderedVersions x = new OrderedVersions();
        int[] keys = {0, LEAST, MOST, -1, 1};
        for (int key : keys) {
            Check.due("new " + key, x.put(key, 5), true);
        }
        for (int key : keys) {
            Check.due("with the same value " + key, x.put(key, 5), false);
            Check.due("with another value " + key, x.put(key, 6), false);
        }
        Check.due("size", x.size(0), 5);
    }

    @Says(promise = 2, words = "whether it is a new key")
    static void promise2_aKeyThatWentIsNewAgain() {
        OrderedVersions x = new OrderedVersions();
        x.snapshot();
        x.put(30, 3);
        x.remove(30);
        Check.due("after remove", x.put(30, 3), true);
        x.cut(30, 30);
        Check.due("after cut", x.put(30, 3), true);
        x.load(0, 1, 3, 0, 0);
        Check.due("after load", x.put(30, 3), true);
        x.restore(1);
        Check.due("after restore", x.put(30, 3), true);
    }

    @Says(promise = 2, words = "whether it is a new key")
    static void promise2_aKeyOfASnapshotAloneIsNew() {
        OrderedVersions x = Sample.five();
        x.snapshot();
        x.remove(30);
        Check.due("put", x.put(30, 9), true);
        Check.due("value in the snapshot", x.get(1, 30), 3);
    }

    @Says(promise = 2, words = "whether it is a new key")
    static void promise2_aKeyThatCameOtherwiseIsOld() {
        OrderedVersions x = Sample.five();
        x.snapshot();
        x.load(30, 1, 1, 0, 9);
        Check.due("by load", x.put(30, 3), false);
        x.merge(1);
        Check.due("by merge", x.put(50, 3), false);
        x.cut(LEAST, MOST);
        x.restore(1);
        Check.due("by restore", x.put(10, 3), false);
    }

    @Says(promise = 2, words = "UnsupportedOperation: it would be, and there are 600")
    static void promise2_aNewKeyAt600IsRefused() {
        OrderedVersions x = new OrderedVersions();
        x.load(10, 2, 600, 1, 0);
        int[] keys = {LEAST, 9, 11, 611, 1207, 1209, MOST};
        for (int key : keys) {
            Check.refused("put " + key, Check.TOO_MANY, () -> x.put(key, 9) ? 1 : 0);
            Check.refused("get " + key, Check.NO_ELEMENT, () -> x.get(0, key));
        }
        Check.due("size", x.size(0), 600);
    }

    @Says(promise = 2, words = "UnsupportedOperation: it would be, and there are 600")
    static void promise2_anOldKeyAt600IsTaken() {
        OrderedVersions x = Sample.full();
        int[] keys = {0, 300, 599};
        for (int key : keys) {
            Check.due("put " + key, x.put(key, -7), false);
            Check.due("value " + key, x.get(0, key), -7);
        }
        Check.due("size", x.size(0), 600);
    }

    @Says(promise = 2, words = "UnsupportedOperation: it would be, and there are 600")
    static void promise2_aNewKeyAt599IsTaken() {
        int[] keys = {LEAST, 601, MOST};
        for (int key : keys) {
            OrderedVersions x = new OrderedVersions();
            x.load(0, 2, 599, 1, 0);
            Check.due("put " + key, x.put(key, 9), true);
            Check.due("value " + key, x.get(0, key), 9);
            Check.due("size", x.size(0), 600);
            Check.due("first of the others", x.get(0, 0), 0);
            Check.due("last of the others", x.get(0, 1196), 1196);
        }
    }

    @Says(promise = 2, words = "UnsupportedOperation: it would be, and there are 600")
    static void promise2_thereIsRoomAgainWhenOneOf600Went() {
        OrderedVersions x = Sample.full();
        x.remove(300);
        Check.due("after remove", x.put(-1, 9), true);
        Check.refused("full again", Check.TOO_MANY, () -> x.put(300, 9) ? 1 : 0);
        x.cut(599, 599);
        Check.due("after cut", x.put(300, 9), true);
        Check.refused("full once more", Check.TOO_MANY, () -> x.put(599, 9) ? 1 : 0);
    }

    @Says(promise = 2, words = "UnsupportedOperation: it would be, and there are 600")
    static void promise2_theKeysOfOtherMapsDoNotCount() {
        OrderedVersions x = Sample.full();
        x.snapshot();
        x.open(0, 0, false);
        x.cut(LEAST, MOST);
        Check.due("put", x.put(1000, 1), true);
    }

    // Promise 3: remove

    @Says(promise = 3, words = "A key goes from the present map")
    static void promise3_theKeyIsGoneAndTheOthersStay() {
        String[] left = {"20=-2 30=3 40=-4 50=5", "10=1 20=-2 40=-4 50=5", "10=1 20=-2 30=3 40=-4"};
        int[] keys = {10, 30, 50};
        for (int i = 0; i < keys.length; i++) {
            OrderedVersions x = Sample.five();
            x.remove(keys[i]);
            Check.same("without " + keys[i], Sample.map(x, 0), left[i]);
        }
    }

    @Says(promise = 3, words = "A key goes from the present map")
    static void promise3_theLastKeyLeavesAnEmptyMap() {
        OrderedVersions x = new OrderedVersions();
        x.put(7, 8);
        Check.due("remove", x.remove(7), 8);
        Check.due("size", x.size(0), 0);
        Check.due("rank", x.rank(0, MOST), 0);
    }

    @Says(promise = 3, words = "A key goes from the present map")
    static void promise3_otherMapsKeepTheKey() {
        OrderedVersions x = Sample.five();
        x.snapshot();
        x.open(0, 30, false);
        x.remove(30);
        Check.due("snapshot", x.get(1, 30), 3);
        Check.due("cursor", x.next(0), 30);
    }

    @Says(promise = 3, words = "the value that it had")
    static void promise3_theAnswerIsTheValue() {
        OrderedVersions x = Sample.five();
        x.put(LEAST, MOST);
        x.put(MOST, LEAST);
        x.put(20, 7);
        Check.due("least int", x.remove(LEAST), MOST);
        Check.due("greatest int", x.remove(MOST), LEAST);
        Check.due("first", x.remove(10), 1);
        Check.due("the later value", x.remove(20), 7);
        Check.due("last", x.remove(50), 5);
    }

    @Says(promise = 3, words = "the value that it had")
    static void promise3_ofAMapWith600Keys() {
        OrderedVersions x = Sample.full();
        Check.due("last", x.remove(599), 599);
        Check.due("first", x.remove(0), 0);
        Check.due("size", x.size(0), 598);
        Check.due("sum", x.sum(0, LEAST, MOST), 598 * 599 / 2);
    }

    @Says(promise = 3, words = "NoSuchElement: it is not there")
    static void promise3_aKeyThatIsNotThereIsRefused() {
        OrderedVersions x = Sample.five();
        int[] keys = {LEAST, 9, 11, 25, 49, 51, MOST};
        for (int key : keys) {
            Check.refused("remove " + key, Check.NO_ELEMENT, () -> x.remove(key));
        }
        Check.same("map", Sample.map(x, 0), Sample.FIVE);
    }

    @Says(promise = 3, words = "NoSuchElement: it is not there")
    static void promise3_aKeyIsRefusedTheSecondTime() {
        OrderedVersions x = Sample.five();
        x.remove(50);
        Check.refused("the last one", Check.NO_ELEMENT, () -> x.remove(50));
        x.cut(10, 10);
        Check.refused("the first one", Check.NO_ELEMENT, () -> x.remove(10));
    }

    @Says(promise = 3, words = "NoSuchElement: it is not there")
    static void promise3_aKeyOfASnapshotAloneIsRefused() {
        OrderedVersions x = Sample.five();
        x.snapshot();
        x.load(0, 1, 0, 0, 0);
        Check.refused("remove", Check.NO_ELEMENT, () -> x.remove(10));
        Check.due("size of the snapshot", x.size(1), 5);
    }

    @Says(promise = 3, words = "NoSuchElement: it is not there")
    static void promise3_ofAnEmptyMapEachKeyIsRefused() {
        OrderedVersions x = new OrderedVersions();
        int[] keys = {LEAST, 0, MOST};
        for (int key : keys) {
            Check.refused("remove " + key, Check.NO_ELEMENT, () -> x.remove(key));
        }
    }

    // Promise 4: load

    @Says(promise = 4, words = "The present map becomes one of n keys: first, first and step, and so on")
    static void promise4_theKeysAreStepsApart() {
        OrderedVersions x = Sample.five();
        x.load(-5, 3, 4, 0, 9);
        Check.same("map", Sample.map(x, 0), "-5=9 -2=9 1=9 4=9");
    }

    @Says(promise = 4, words = "The present map becomes one of n keys: first, first and step, and so on")
    static void promise4_ofNoKeysTheMapIsEmpty() {
        OrderedVersions x = Sample.five();
        Check.due("load", x.load(7, 1, 0, 1, 1), 5);
        Check.due("size", x.size(0), 0);
        Check.refused("no key at first", Check.NO_ELEMENT, () -> x.get(0, 7));
    }

    @Says(promise = 4, words = "The present map becomes one of n keys: first, first and step, and so on")
    static void promise4_ofOneKeyTheStepDoesNotMatter() {
        int[] steps = {1, 2, MOST};
        int[] firsts = {LEAST, 0, MOST};
        for (int first : firsts) {
            for (int step : steps) {
                OrderedVersions x = Sample.five();
                x.load(first, step, 1, 0, 4);
                Check.same("step " + step, Sample.map(x, 0), first + "=4");
            }
        }
    }

    @Says(promise = 4, words = "The present map becomes one of n keys: first, first and step, and so on")
    static void promise4_of600Keys() {
        OrderedVersions x = Sample.five();
        x.load(-300, 1, 600, 2, 0);
        Check.due("size", x.size(0), 600);
        Check.due("first", x.select(0, 0), -300);
        Check.due("last", x.select(0, 599), 299);
        Check.due("last value", x.get(0, 299), 598);
        Check.due("sum", x.sum(0, LEAST, MOST), -600);
    }

    @Says(promise = 4, words = "The present map becomes one of n keys: first, first and step, and so on")
    static void promise4_snapshotsAndCursorsStayAsTheyWere() {
        OrderedVersions x = Sample.five();
        x.snapshot();
        x.open(0, 10, false);
        x.load(0, 1, 600, 0, 0);
        Check.same("snapshot", Sample.map(x, 1), Sample.FIVE);
        Check.same("cursor", Sample.rest(x, 0), "10 20 30 40 50");
    }

    @Says(promise = 4, words = "with values times their keys, and more")
    static void promise4_theValues() {
        OrderedVersions x = new OrderedVersions();
        x.load(-1, 1, 3, 5, 100);
        Check.same("times and more", Sample.map(x, 0), "-1=95 0=100 1=105");
        x.load(-1, 1, 3, 0, -3);
        Check.same("times 0", Sample.map(x, 0), "-1=-3 0=-3 1=-3");
        x.load(-1, 1, 3, -2, 0);
        Check.same("times below 0", Sample.map(x, 0), "-1=2 0=0 1=-2");
    }

    @Says(promise = 4, words = "(as ints, running over)")
    static void promise4_theValuesRunOver() {
        OrderedVersions x = new OrderedVersions();
        x.load(2, 1, 2, MOST, 0);
        Check.same("times", Sample.map(x, 0), "2=-2 3=2147483645");
        x.load(1, 1, 2, 1, MOST);
        Check.same("more", Sample.map(x, 0), "1=-2147483648 2=-2147483647");
        x.load(-1, 1, 2, LEAST, -1);
        Check.same("below the least int", Sample.map(x, 0), "-1=2147483647 0=-1");
        x.load(MOST, 1, 1, MOST, MOST);
        Check.same("greatest ints", Sample.map(x, 0), "2147483647=-2147483648");
    }

    @Says(promise = 4, words = "how many keys it had")
    static void promise4_theAnswerIsTheOldSize() {
        OrderedVersions x = new OrderedVersions();
        Check.due("of an empty map", x.load(0, 1, 600, 0, 0), 0);
        Check.due("of 600 keys", x.load(0, 1, 1, 0, 0), 600);
        Check.due("of one key", x.load(0, 1, 0, 0, 0), 1);
        Check.due("of none", x.load(0, 1, 7, 0, 0), 0);
        Check.due("of the same keys", x.load(0, 1, 7, 0, 0), 7);
    }

    @Says(promise = 4, words = "IllegalArgument: n is not 0 .. 600")
    static void promise4_nBelow0IsRefused() {
        refusesLoad(0, 1, -1);
        refusesLoad(0, 1, LEAST);
        refusesLoad(MOST, MOST, -1);
    }

    @Says(promise = 4, words = "IllegalArgument: n is not 0 .. 600")
    static void promise4_nAbove600IsRefused() {
        refusesLoad(0, 1, 601);
        refusesLoad(LEAST, 1, 601);
        refusesLoad(0, 1, MOST);
    }

    @Says(promise = 4, words = "step is below 1")
    static void promise4_aStepBelow1IsRefused() {
        int[] steps = {0, -1, LEAST};
        for (int step : steps) {
            refusesLoad(0, step, 0);
            refusesLoad(0, step, 1);
            refusesLoad(0, step, 600);
        }
    }

    @Says(promise = 4, words = "or a key would be beyond ints")
    static void promise4_aLastKeyAtTheGreatestIntIsTaken() {
        int[][] loads = {{MOST, 1, 1}, {MOST - 1, 1, 2}, {MOST - 599, 1, 600}, {LEAST + 1, MOST, 3},
            {1, MOST - 1, 2}, {MOST - 599 * 3, 3, 600}};
        for (int[] load : loads) {
            OrderedVersions x = new OrderedVersions();
            x.load(load[0], load[1], load[2], 1, 0);
            Check.due("last key from " + load[0], x.select(0, load[2] - 1), MOST);
            Check.due("its value from " + load[0], x.get(0, MOST), MOST);
        }
    }

    @Says(promise = 4, words = "or a key would be beyond ints")
    static void promise4_aLastKeyOneBeyondIsRefused() {
        refusesLoad(MOST, 1, 2);
        refusesLoad(MOST - 598, 1, 600);
        refusesLoad(LEAST + 2, MOST, 3);
        refusesLoad(2, MOST - 1, 2);
        refusesLoad(MOST - 599 * 3 + 1, 3, 600);
    }

    @Says(promise = 4, words = "or a key would be beyond ints")
    static void promise4_keysThatWouldComeRoundAgainAreRefused() {
        refusesLoad(0, 1 << 30, 5);
        refusesLoad(0, 1 << 30, 9);
        refusesLoad(LEAST, 1 << 30, 5);
        refusesLoad(LEAST, MOST, 4);
        refusesLoad(MOST, MOST, 600);
        refusesLoad(LEAST, MOST, 600);
        refusesLoad(-1, 1 << 23, 600);
    }

    @Says(promise = 4, words = "or a key would be beyond ints")
    static void promise4_keysOverAllIntsAreTaken() {
        OrderedVersions x = new OrderedVersions();
        x.load(LEAST, 1 << 30, 4, 0, 1);
        Check.same("of 4", Sample.map(x, 0), "-2147483648=1 -1073741824=1 0=1 1073741824=1");
        x.load(LEAST, 7_170_229, 600, 0, 1);
        Check.due("of 600", x.select(0, 599), (int) (LEAST + 599L * 7_170_229));
        Check.due("all in order", x.astray(), 0);
        refusesLoad(LEAST, 7_170_230, 600);
    }

    @Says(promise = 4, words = "or a key would be beyond ints")
    static void promise4_ofNoKeysNoneIsBeyondInts() {
        OrderedVersions x = new OrderedVersions();
        Check.due("at the greatest int", x.load(MOST, MOST, 0, 1, 1), 0);
        Check.due("at the least int", x.load(LEAST, MOST, 0, 1, 1), 0);
    }

    private static void refusesLoad(int first, int step, int n) {
        OrderedVersions x = Sample.five();
        String name = first + " " + step + " " + n;
        Check.refused(name, Check.BAD_ARGUMENT, () -> x.load(first, step, n, 1, 0));
        Check.same("map after " + name, Sample.map(x, 0), Sample.FIVE);
    }

    // Promise 5: cut

    @Says(promise = 5, words = "All keys of a range go from the present map")
    static void promise5_theKeysOfTheRangeGo() {
        cuts(15, 45, 3, "10=1 50=5");
        cuts(20, 40, 3, "10=1 50=5");
        cuts(21, 39, 1, "10=1 20=-2 40=-4 50=5");
        cuts(30, 30, 1, "10=1 20=-2 40=-4 50=5");
    }

    @Says(promise = 5, words = "All keys of a range go from the present map")
    static void promise5_theFirstAndTheLastKeysGo() {
        cuts(LEAST, 10, 1, "20=-2 30=3 40=-4 50=5");
        cuts(LEAST, 29, 2, "30=3 40=-4 50=5");
        cuts(50, MOST, 1, "10=1 20=-2 30=3 40=-4");
        cuts(31, MOST, 2, "10=1 20=-2 30=3");
        cuts(10, 50, 5, "");
        cuts(LEAST, MOST, 5, "");
    }

    @Says(promise = 5, words = "All keys of a range go from the present map")
    static void promise5_aRangeWithoutKeysTakesNone() {
        cuts(21, 29, 0, Sample.FIVE);
        cuts(LEAST, 9, 0, Sample.FIVE);
        cuts(51, MOST, 0, Sample.FIVE);
        cuts(LEAST, LEAST, 0, Sample.FIVE);
        cuts(MOST, MOST, 0, Sample.FIVE);
    }

    @Says(promise = 5, words = "All keys of a range go from the present map")
    static void promise5_aRangeUpsideDownTakesNone() {
        cuts(40, 20, 0, Sample.FIVE);
        cuts(30, 29, 0, Sample.FIVE);
        cuts(31, 30, 0, Sample.FIVE);
        cuts(MOST, LEAST, 0, Sample.FIVE);
    }

    @Says(promise = 5, words = "All keys of a range go from the present map")
    static void promise5_snapshotsAndCursorsKeepThem() {
        OrderedVersions x = Sample.five();
        x.snapshot();
        x.open(0, 10, false);
        x.cut(20, 40);
        Check.same("snapshot", Sample.map(x, 1), Sample.FIVE);
        Check.same("cursor", Sample.rest(x, 0), "10 20 30 40 50");
    }

    @Says(promise = 5, words = "how many")
    static void promise5_ofAnEmptyMapNone() {
        OrderedVersions x = new OrderedVersions();
        Check.due("all ints", x.cut(LEAST, MOST), 0);
        Check.due("one int", x.cut(0, 0), 0);
    }

    @Says(promise = 5, words = "how many")
    static void promise5_of600Keys() {
        OrderedVersions x = Sample.full();
        Check.due("none", x.cut(600, MOST), 0);
        Check.due("all but the ends", x.cut(1, 598), 598);
        Check.same("the ends", Sample.map(x, 0), "0=0 599=599");
        Check.due("all of 600", Sample.full().cut(0, 599), 600);
    }

    @Says(promise = 5, words = "how many")
    static void promise5_atTheLeastAndTheGreatestInt() {
        OrderedVersions x = Sample.ends();
        Check.due("up to the greatest int", x.cut(1, MOST), 1);
        Check.due("from the least int", x.cut(LEAST, -1), 1);
        Check.same("map", Sample.map(x, 0), "0=3");
        Check.due("all ints", Sample.ends().cut(LEAST, MOST), 3);
    }

    private static void cuts(int from, int to, int due, String left) {
        OrderedVersions x = Sample.five();
        Check.due("from " + from + " to " + to, x.cut(from, to), due);
        Check.same("left from " + from + " to " + to, Sample.map(x, 0), left);
    }

    // Promise 6: merge

    @Says(promise = 6, words = "All keys that a version has and the present map has not come to it, with their values there")
    static void promise6_keysComeBetweenTheOthers() {
        OrderedVersions x = Sample.five();
        x.snapshot();
        x.load(5, 15, 5, 0, 100);
        Check.due("merge", x.merge(1), 3);
        Check.same("map", Sample.map(x, 0), "5=100 10=1 20=100 30=3 35=100 40=-4 50=100 65=100");
    }

    @Says(promise = 6, words = "All keys that a version has and the present map has not come to it, with their values there")
    static void promise6_keysComeAllBelowAndAllAbove() {
        OrderedVersions x = Sample.five();
        x.snapshot();
        x.load(60, 1, 1, 0, 6);
        Check.due("below", x.merge(1), 5);
        Check.same("map below", Sample.map(x, 0), Sample.FIVE + " 60=6");
        x.load(1, 1, 1, 0, 6);
        Check.due("above", x.merge(1), 5);
        Check.same("map above", Sample.map(x, 0), "1=6 " + Sample.FIVE);
    }

    @Says(promise = 6, words = "All keys that a version has and the present map has not come to it, with their values there")
    static void promise6_aSharedKeyKeepsThePresentValue() {
        OrderedVersions x = Sample.five();
        x.snapshot();
        x.put(10, 11);
        x.put(50, 55);
        x.remove(30);
        Check.due("merge", x.merge(1), 1);
        Check.same("map", Sample.map(x, 0), "10=11 20=-2 30=3 40=-4 50=55");
    }

    @Says(promise = 6, words = "All keys that a version has and the present map has not come to it, with their values there")
    static void promise6_intoAnEmptyMapAllCome() {
        OrderedVersions x = Sample.five();
        x.snapshot();
        x.cut(LEAST, MOST);
        Check.due("merge", x.merge(1), 5);
        Check.same("map", Sample.map(x, 0), Sample.FIVE);
        x.put(10, 9);
        Check.due("the version is apart", x.get(1, 10), 1);
    }

    @Says(promise = 6, words = "All keys that a version has and the present map has not come to it, with their values there")
    static void promise6_ofAnEmptyVersionNoneComes() {
        OrderedVersions x = new OrderedVersions();
        x.snapshot();
        Check.due("into an empty map", x.merge(1), 0);
        Sample.putFive(x);
        Check.due("into five", x.merge(1), 0);
        Check.same("map", Sample.map(x, 0), Sample.FIVE);
        x.load(0, 1, 600, 0, 0);
        Check.due("into 600", x.merge(1), 0);
    }

    @Says(promise = 6, words = "All keys that a version has and the present map has not come to it, with their values there")
    static void promise6_theLeastAndTheGreatestIntCome() {
        OrderedVersions x = Sample.ends();
        x.snapshot();
        x.load(-1, 1, 3, 0, 9);
        Check.due("merge", x.merge(1), 2);
        Check.same("map", Sample.map(x, 0), "-2147483648=1 -1=9 0=9 1=9 2147483647=2");
    }

    @Says(promise = 6, words = "All keys that a version has and the present map has not come to it, with their values there")
    static void promise6_theVersionStaysAsItIs() {
        OrderedVersions x = Sample.five();
        x.snapshot();
        x.load(15, 10, 5, 0, 9);
        x.merge(1);
        Check.same("version", Sample.map(x, 1), Sample.FIVE);
    }

    @Says(promise = 6, words = "how many (0 of version 0)")
    static void promise6_ofVersion0NoneComes() {
        Check.due("empty", new OrderedVersions().merge(0), 0);
        Check.due("full", Sample.full().merge(0), 0);
        OrderedVersions x = Sample.five();
        Check.due("five", x.merge(0), 0);
        Check.same("map", Sample.map(x, 0), Sample.FIVE);
    }

    @Says(promise = 6, words = "how many (0 of version 0)")
    static void promise6_ofTheSameKeysNoneComes() {
        OrderedVersions x = Sample.five();
        x.snapshot();
        Check.due("first", x.merge(1), 0);
        x.put(60, 6);
        Check.due("of fewer keys", x.merge(1), 0);
        x.remove(10);
        Check.due("one that went", x.merge(1), 1);
        Check.due("not twice", x.merge(1), 0);
    }

    @Says(promise = 6, words = "IndexOutOfBounds: there is no such version")
    static void promise6_noSuchVersion() {
        Sample.needsVersion(OrderedVersions::merge);
    }

    @Says(promise = 6, words = "UnsupportedOperation: it would have more than 600")
    static void promise6_upTo600IsTaken() {
        OrderedVersions x = new OrderedVersions();
        x.load(0, 2, 300, 1, 0);
        x.snapshot();
        x.load(1, 2, 300, 1, 0);
        Check.due("merge", x.merge(1), 300);
        Check.due("size", x.size(0), 600);
        Check.due("first", x.select(0, 0), 0);
        Check.due("last", x.select(0, 599), 599);
        Check.due("sum", x.sum(0, LEAST, MOST), 599 * 600 / 2);
        Check.due("all in order", x.astray(), 0);
    }

    @Says(promise = 6, words = "UnsupportedOperation: it would have more than 600")
    static void promise6_601IsRefused() {
        OrderedVersions x = new OrderedVersions();
        x.put(-5, 1);
        x.snapshot();
        x.load(0, 1, 600, 1, 0);
        Check.refused("one more below", Check.TOO_MANY, () -> x.merge(1));
        x.load(-606, 1, 600, 1, 0);
        Check.refused("one more above", Check.TOO_MANY, () -> x.merge(1));
        x.load(-605, 1, 600, 1, 0);
        Check.refused("one just above the last", Check.TOO_MANY, () -> x.merge(1));
        x.load(-604, 1, 600, 1, 0);
        Check.due("none more", x.merge(1), 0);
    }

    @Says(promise = 6, words = "UnsupportedOperation: it would have more than 600")
    static void promise6_sharedKeysCountOnce() {
        OrderedVersions x = Sample.full();
        x.snapshot();
        Check.due("600 and the same 600", x.merge(1), 0);
        x.cut(0, 99);
        Check.due("500 and 600 around them", x.merge(1), 100);
        x.load(1, 1, 599, 0, 7);
        Check.due("599 and one below them", x.merge(1), 1);
        Check.due("a present value stays", x.get(0, 599), 7);
        x.load(1, 1, 600, 0, 7);
        Check.refused("600 and one below them", Check.TOO_MANY, () -> x.merge(1));
    }

    @Says(promise = 6, words = "UnsupportedOperation: it would have more than 600")
    static void promise6_farMoreThan600IsRefused() {
        OrderedVersions x = Sample.full();
        x.snapshot();
        x.load(1000, 1, 600, 0, 7);
        Check.refused("1200", Check.TOO_MANY, () -> x.merge(1));
        Check.due("size", x.size(0), 600);
        Check.due("sum", x.sum(0, LEAST, MOST), 4200);
    }
}
