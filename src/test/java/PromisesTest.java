/** Each promise by itself: ordinary inputs, the edges that the document names, and wrong inputs. */
public final class PromisesTest {
    private static final int LEAST = Integer.MIN_VALUE;
    private static final int MOST = Integer.MAX_VALUE;

    private PromisesTest() {
    }

    public static void main(String[] args) {
        promise1NewObject();
        promise2Put();
        promise3Remove();
        promise4Load();
        promise4LoadRefuses();
        promise5Cut();
        promise6Merge();
        promise6MergeRefuses();
        promise7Snapshot();
        promise8Release();
        promise9Restore();
        promise10Size();
        promise11Get();
        promise12Rank();
        promise13Select();
        promise14Near();
        promise15Sum();
        promise16Greatest();
        promise17Differs();
        promise18FirstDifference();
        promise19Open();
        promise19OpenGoesOverTheMapAsItWas();
        promise20Next();
        promise21Skip();
        promise22Peek();
        promise23Close();
        promise24Astray();
        Check.finish("PromisesTest");
    }

    /** Keys 10, 20, 30, 40, 50 with values 1, -2, 3, -4, 5. */
    private static OrderedVersions five() {
        OrderedVersions x = new OrderedVersions();
        x.put(30, 3);
        x.put(10, 1);
        x.put(50, 5);
        x.put(20, -2);
        x.put(40, -4);
        return x;
    }

    /** Keys 0 .. 599 with values as their keys. */
    private static OrderedVersions full() {
        OrderedVersions x = new OrderedVersions();
        x.load(0, 1, 600, 1, 0);
        return x;
    }

    /** What a version is, written out: a call that throws must leave it so. */
    private static String state(OrderedVersions x, int version) {
        StringBuilder text = new StringBuilder();
        for (int i = 0; i < x.size(version); i++) {
            int key = x.select(version, i);
            text.append(key).append('=').append(x.get(version, key)).append(' ');
        }
        return text.toString().trim();
    }

    private static void refusesOtherNumbers(String what, OrderedVersions x, java.util.function.IntToLongFunction call) {
        int[] numbers = {LEAST, -1, 1, 2, 12, 13, 600, MOST};
        for (int number : numbers) {
            Check.refused(what + " " + number, Check.NO_INDEX, () -> call.applyAsLong(number));
        }
        Check.due(what + " refused leaves nothing astray", x.astray(), 0);
    }

    private static void promise1NewObject() {
        OrderedVersions x = new OrderedVersions();
        Check.due("new size", x.size(0), 0);
        Check.due("new rank", x.rank(0, MOST), 0);
        Check.due("new sum", x.sum(0, LEAST, MOST), 0);
        refusesOtherNumbers("new size", x, x::size);
        for (int cursor = -1; cursor < 9; cursor++) {
            int number = cursor;
            Check.refused("new peek " + number, Check.NO_INDEX, () -> x.peek(number));
        }
        x.put(1, 1);
        Check.due("objects share nothing", new OrderedVersions().size(0), 0);
    }

    private static void promise2Put() {
        OrderedVersions x = new OrderedVersions();
        Check.due("put new", x.put(5, 1), true);
        Check.due("put again", x.put(5, 2), false);
        Check.due("put least", x.put(LEAST, 3), true);
        Check.due("put most", x.put(MOST, LEAST), true);
        Check.due("put zero", x.put(0, MOST), true);
        Check.due("put least again", x.put(LEAST, 4), false);
        Check.same("put state", state(x, 0), "-2147483648=4 0=2147483647 5=2 2147483647=-2147483648");

        OrderedVersions y = new OrderedVersions();
        y.load(0, 2, 599, 1, 0);
        Check.due("put 600th", y.put(1, 7), true);
        String before = state(y, 0);
        Check.refused("put 601st", Check.TOO_MANY, () -> y.put(3, 7) ? 1 : 0);
        Check.refused("put 601st at the end", Check.TOO_MANY, () -> y.put(MOST, 7) ? 1 : 0);
        Check.same("put refused", state(y, 0), before);
        Check.due("put old key at 600", y.put(1, 8), false);
        Check.due("put old key's value", y.get(0, 1), 8);
        y.remove(0);
        Check.due("put after room was made", y.put(3, 7), true);
    }

    private static void promise3Remove() {
        OrderedVersions x = five();
        Check.refused("remove between", Check.NO_ELEMENT, () -> x.remove(25));
        Check.refused("remove below", Check.NO_ELEMENT, () -> x.remove(LEAST));
        Check.refused("remove above", Check.NO_ELEMENT, () -> x.remove(MOST));
        Check.same("remove refused", state(x, 0), "10=1 20=-2 30=3 40=-4 50=5");
        Check.due("remove middle", x.remove(30), 3);
        Check.due("remove first", x.remove(10), 1);
        Check.due("remove last", x.remove(50), 5);
        Check.same("remove state", state(x, 0), "20=-2 40=-4");
        Check.refused("remove twice", Check.NO_ELEMENT, () -> x.remove(30));
        x.remove(20);
        x.remove(40);
        Check.due("remove all", x.size(0), 0);
        Check.refused("remove of nothing", Check.NO_ELEMENT, () -> x.remove(20));
    }

    private static void promise4Load() {
        OrderedVersions x = five();
        Check.due("load answers the old size", x.load(-5, 3, 4, 2, 1), 5);
        Check.same("load state", state(x, 0), "-5=-9 -2=-3 1=3 4=9");
        Check.due("load nothing", x.load(7, 1, 0, 1, 1), 4);
        Check.due("load nothing leaves nothing", x.size(0), 0);
        Check.due("load nothing at the greatest int", x.load(MOST, MOST, 0, 1, 1), 0);
        x.load(LEAST, MOST, 3, 3, -7);
        Check.same("load over all ints", state(x, 0), "-2147483648=2147483641 -1=-10 2147483646=2147483635");
        Check.due("load one at the greatest int", x.load(MOST, MOST, 1, 2, 2), 3);
        Check.same("load values run over", state(x, 0), "2147483647=0");
        x.load(MOST - 599, 1, 600, 0, 9);
        Check.due("load 600 up to the greatest int", x.select(0, 599), MOST);
        Check.due("load 600 size", x.size(0), 600);
        x.load(LEAST, 7_000_000, 600, 1, 0);
        Check.due("load with a wide step", x.select(0, 599), (int) (LEAST + 599L * 7_000_000));
    }

    private static void promise4LoadRefuses() {
        OrderedVersions x = five();
        Check.refused("load -1", Check.BAD_ARGUMENT, () -> x.load(0, 1, -1, 0, 0));
        Check.refused("load least", Check.BAD_ARGUMENT, () -> x.load(0, 1, LEAST, 0, 0));
        Check.refused("load 601", Check.BAD_ARGUMENT, () -> x.load(0, 1, 601, 0, 0));
        Check.refused("load most", Check.BAD_ARGUMENT, () -> x.load(0, 1, MOST, 0, 0));
        Check.refused("load step 0", Check.BAD_ARGUMENT, () -> x.load(0, 0, 1, 0, 0));
        Check.refused("load step 0 of none", Check.BAD_ARGUMENT, () -> x.load(0, 0, 0, 0, 0));
        Check.refused("load step below 0", Check.BAD_ARGUMENT, () -> x.load(0, LEAST, 2, 0, 0));
        Check.refused("load one beyond", Check.BAD_ARGUMENT, () -> x.load(MOST - 7, 1, 9, 1, 0));
        Check.refused("load far beyond", Check.BAD_ARGUMENT, () -> x.load(MOST, MOST, 600, 1, 0));
        Check.refused("load twice round", Check.BAD_ARGUMENT, () -> x.load(0, MOST, 5, 1, 0));
        Check.refused("load just beyond", Check.BAD_ARGUMENT, () -> x.load(LEAST + 2, MOST, 3, 1, 0));
        Check.same("load refused", state(x, 0), "10=1 20=-2 30=3 40=-4 50=5");
        Check.due("load just within", x.load(LEAST + 1, MOST, 3, 1, 0), 5);
        Check.due("load just within, last key", x.select(0, 2), MOST);
    }

    private static void promise5Cut() {
        OrderedVersions x = five();
        Check.due("cut upside down", x.cut(40, 20), 0);
        Check.due("cut upside down, all ints", x.cut(MOST, LEAST), 0);
        Check.due("cut between", x.cut(21, 29), 0);
        Check.due("cut below", x.cut(LEAST, 9), 0);
        Check.due("cut above", x.cut(51, MOST), 0);
        Check.same("cut nothing", state(x, 0), "10=1 20=-2 30=3 40=-4 50=5");
        Check.due("cut with both ends", x.cut(20, 30), 2);
        Check.same("cut state", state(x, 0), "10=1 40=-4 50=5");
        Check.due("cut one", x.cut(40, 40), 1);
        Check.due("cut all", x.cut(LEAST, MOST), 2);
        Check.due("cut of nothing", x.cut(LEAST, MOST), 0);
        x.put(LEAST, 1);
        x.put(MOST, 2);
        Check.due("cut the greatest int", x.cut(MOST, MOST), 1);
        Check.due("cut the least int", x.cut(LEAST, LEAST), 1);
        OrderedVersions y = full();
        Check.due("cut most of 600", y.cut(1, 598), 598);
        Check.same("cut most of 600, state", state(y, 0), "0=0 599=599");
    }

    private static void promise6Merge() {
        OrderedVersions x = five();
        Check.due("merge itself", x.merge(0), 0);
        Check.due("merge snapshot", x.snapshot(), 1);
        Check.due("merge the same", x.merge(1), 0);
        x.load(5, 15, 4, 0, 100);
        Check.same("merge before", state(x, 0), "5=100 20=100 35=100 50=100");
        Check.due("merge", x.merge(1), 3);
        Check.same("merge state", state(x, 0), "5=100 10=1 20=100 30=3 35=100 40=-4 50=100");
        Check.same("merge leaves the version", state(x, 1), "10=1 20=-2 30=3 40=-4 50=5");
        x.cut(LEAST, MOST);
        Check.due("merge into nothing", x.merge(1), 5);
        Check.same("merge into nothing, state", state(x, 0), "10=1 20=-2 30=3 40=-4 50=5");
        x.cut(LEAST, MOST);
        Check.due("merge empty snapshot", x.snapshot(), 2);
        x.put(1, 1);
        Check.due("merge nothing", x.merge(2), 0);
        Check.due("merge all above", x.merge(1), 5);
        Check.same("merge all above, state", state(x, 0), "1=1 10=1 20=-2 30=3 40=-4 50=5");
        x.load(60, 1, 1, 1, 0);
        x.merge(1);
        Check.same("merge all below, state", state(x, 0), "10=1 20=-2 30=3 40=-4 50=5 60=60");
    }

    private static void promise6MergeRefuses() {
        OrderedVersions x = new OrderedVersions();
        refusesOtherNumbers("merge", x, x::merge);
        x.load(0, 2, 300, 1, 0);
        x.snapshot();
        x.load(1, 2, 300, 1, 0);
        Check.due("merge up to 600", x.merge(1), 300);
        Check.due("merge up to 600, order", x.select(0, 599), 599);
        Check.due("merge shared keys at 600", x.merge(1), 0);
        x.load(1, 2, 301, 1, 0);
        String before = state(x, 0);
        Check.refused("merge up to 601", Check.TOO_MANY, () -> x.merge(1));
        Check.same("merge refused", state(x, 0), before);
        Check.refused("merge of no version comes first", Check.NO_INDEX, () -> x.merge(2));
        x.put(0, 9);
        x.remove(1);
        Check.due("merge up to 600 with a shared key", x.merge(1), 299);
        Check.due("merge keeps the present value", x.get(0, 0), 9);
    }

    private static void promise7Snapshot() {
        OrderedVersions x = five();
        for (int number = 1; number <= 12; number++) {
            Check.due("snapshot", x.snapshot(), number);
            x.put(number, number);
        }
        Check.refused("snapshot 13", Check.TOO_MANY, x::snapshot);
        Check.due("snapshot refused", x.size(0), 16);
        Check.due("snapshot 1 stays", x.size(1), 5);
        Check.due("snapshot 12 stays", x.size(12), 15);
        x.release(7);
        x.release(3);
        Check.due("snapshot takes the least number", x.snapshot(), 3);
        Check.due("snapshot is of now", x.size(3), 16);
        Check.due("snapshot takes the next number", x.snapshot(), 7);
        x.put(10, 77);
        x.remove(20);
        x.cut(30, 40);
        x.merge(1);
        x.load(0, 1, 600, 0, 0);
        Check.same("snapshot does not change", state(x, 1), "10=1 20=-2 30=3 40=-4 50=5");
    }

    private static void promise8Release() {
        OrderedVersions x = five();
        refusesOtherNumbers("release", x, x::release);
        x.snapshot();
        x.snapshot();
        x.snapshot();
        Check.refused("release the present map", Check.NO_INDEX, () -> x.release(0));
        Check.refused("release 4", Check.NO_INDEX, () -> x.release(4));
        Check.due("release 2", x.release(2), 2);
        Check.refused("release 2 again", Check.NO_INDEX, () -> x.release(2));
        Check.refused("released has no size", Check.NO_INDEX, () -> x.size(2));
        Check.due("release 3", x.release(3), 1);
        Check.due("release 1", x.release(1), 0);
        Check.due("release leaves the present map", x.size(0), 5);
    }

    private static void promise9Restore() {
        OrderedVersions x = five();
        refusesOtherNumbers("restore", x, x::restore);
        x.snapshot();
        Check.refused("restore the present map", Check.NO_INDEX, () -> x.restore(0));
        Check.refused("restore 2", Check.NO_INDEX, () -> x.restore(2));
        x.load(0, 1, 600, 1, 0);
        Check.due("restore", x.restore(1), 5);
        Check.same("restore state", state(x, 0), "10=1 20=-2 30=3 40=-4 50=5");
        x.put(10, 9);
        x.remove(50);
        Check.same("restored map is apart", state(x, 1), "10=1 20=-2 30=3 40=-4 50=5");
        Check.due("restore again", x.restore(1), 5);
        Check.due("restore again, value", x.get(0, 10), 1);
        x.release(1);
        Check.due("restored map outlives the snapshot", x.size(0), 5);
        Check.refused("restore released", Check.NO_INDEX, () -> x.restore(1));
    }

    private static void promise10Size() {
        OrderedVersions x = five();
        refusesOtherNumbers("size", x, x::size);
        Check.due("size", x.size(0), 5);
        x.snapshot();
        x.put(10, 2);
        Check.due("size after a put of an old key", x.size(0), 5);
        x.remove(10);
        Check.due("size after remove", x.size(0), 4);
        Check.due("size of a snapshot", x.size(1), 5);
        Check.due("size of 600", full().size(0), 600);
    }

    private static void promise11Get() {
        OrderedVersions x = five();
        refusesOtherNumbers("get", x, version -> x.get(version, 10));
        x.snapshot();
        x.put(10, LEAST);
        x.remove(20);
        Check.due("get", x.get(0, 10), LEAST);
        Check.due("get in a snapshot", x.get(1, 10), 1);
        Check.due("get what is gone now", x.get(1, 20), -2);
        Check.refused("get what is gone", Check.NO_ELEMENT, () -> x.get(0, 20));
        Check.refused("get below", Check.NO_ELEMENT, () -> x.get(1, LEAST));
        Check.refused("get above", Check.NO_ELEMENT, () -> x.get(1, MOST));
        Check.refused("get of no version comes first", Check.NO_INDEX, () -> x.get(2, 11));
    }

    private static void promise12Rank() {
        OrderedVersions x = five();
        refusesOtherNumbers("rank", x, version -> x.rank(version, 0));
        int[] keys = {LEAST, 9, 10, 11, 30, 50, 51, MOST};
        int[] ranks = {0, 0, 0, 1, 2, 4, 5, 5};
        for (int i = 0; i < keys.length; i++) {
            Check.due("rank " + keys[i], x.rank(0, keys[i]), ranks[i]);
        }
        x.snapshot();
        x.cut(LEAST, 40);
        Check.due("rank now", x.rank(0, 50), 0);
        Check.due("rank in a snapshot", x.rank(1, 50), 4);
        x.put(MOST, 0);
        x.put(LEAST, 0);
        Check.due("rank of the greatest int", x.rank(0, MOST), 2);
        OrderedVersions y = full();
        for (int key = 0; key <= 600; key++) {
            Check.due("rank of 600: " + key, y.rank(0, key), key);
        }
    }

    private static void promise13Select() {
        OrderedVersions x = five();
        refusesOtherNumbers("select", x, version -> x.select(version, 0));
        for (int rank = 0; rank < 5; rank++) {
            Check.due("select " + rank, x.select(0, rank), 10 * rank + 10);
        }
        int[] ranks = {LEAST, -1, 5, 600, MOST};
        for (int rank : ranks) {
            Check.refused("select " + rank, Check.NO_ELEMENT, () -> x.select(0, rank));
        }
        x.snapshot();
        x.remove(10);
        Check.due("select in a snapshot", x.select(1, 0), 10);
        Check.due("select now", x.select(0, 0), 20);
        Check.refused("select past a taken key", Check.NO_ELEMENT, () -> x.select(0, 4));
        Check.refused("select of no version comes first", Check.NO_INDEX, () -> x.select(2, -1));
    }

    private static void promise14Near() {
        OrderedVersions x = five();
        refusesOtherNumbers("near", x, version -> x.near(version, 0, true));
        Check.due("near 25 below", x.near(0, 25, false), 20);
        Check.due("near 25 above", x.near(0, 25, true), 30);
        Check.due("near 20 below", x.near(0, 20, false), 20);
        Check.due("near 20 above", x.near(0, 20, true), 20);
        Check.due("near most below", x.near(0, MOST, false), 50);
        Check.due("near least above", x.near(0, LEAST, true), 10);
        Check.refused("near 9 below", Check.NO_ELEMENT, () -> x.near(0, 9, false));
        Check.refused("near 51 above", Check.NO_ELEMENT, () -> x.near(0, 51, true));
        Check.refused("near of no version comes first", Check.NO_INDEX, () -> x.near(1, 9, false));
        x.snapshot();
        x.put(MOST, 0);
        x.put(LEAST, 0);
        Check.due("near the greatest int", x.near(0, MOST, false), MOST);
        Check.due("near the greatest int above", x.near(0, 51, true), MOST);
        Check.due("near the least int", x.near(0, LEAST, true), LEAST);
        Check.due("near in a snapshot", x.near(1, MOST, false), 50);
    }

    private static void promise15Sum() {
        OrderedVersions x = five();
        refusesOtherNumbers("sum", x, version -> x.sum(version, 0, 0));
        Check.due("sum of all", x.sum(0, LEAST, MOST), 3);
        Check.due("sum with both ends", x.sum(0, 20, 40), -3);
        Check.due("sum without ends", x.sum(0, 11, 39), 1);
        Check.due("sum of one", x.sum(0, 50, 50), 5);
        Check.due("sum of none", x.sum(0, 21, 29), 0);
        Check.due("sum upside down", x.sum(0, 40, 20), 0);
        Check.due("sum upside down, all ints", x.sum(0, MOST, LEAST), 0);
        x.snapshot();
        x.load(1, 1, 600, 0, MOST);
        Check.due("sum beyond ints", x.sum(0, 1, 600), 600L * MOST);
        x.load(MOST - 599, 1, 600, 0, LEAST);
        Check.due("sum beyond ints below", x.sum(0, LEAST, MOST), 600L * LEAST);
        Check.due("sum in a snapshot", x.sum(1, 10, 30), 2);
    }

    private static void promise16Greatest() {
        OrderedVersions x = five();
        refusesOtherNumbers("greatest", x, version -> x.greatest(version, 0, 0));
        Check.due("greatest of all", x.greatest(0, LEAST, MOST), 5);
        Check.due("greatest with both ends", x.greatest(0, 10, 20), 1);
        Check.due("greatest in the middle", x.greatest(0, 20, 40), 3);
        Check.due("greatest of one below 0", x.greatest(0, 40, 49), -4);
        Check.refused("greatest of none", Check.NO_ELEMENT, () -> x.greatest(0, 21, 29));
        Check.refused("greatest upside down", Check.NO_ELEMENT, () -> x.greatest(0, 40, 20));
        Check.refused("greatest below", Check.NO_ELEMENT, () -> x.greatest(0, LEAST, 9));
        Check.refused("greatest above", Check.NO_ELEMENT, () -> x.greatest(0, 51, MOST));
        Check.refused("greatest of no version comes first", Check.NO_INDEX, () -> x.greatest(1, 40, 20));
        x.snapshot();
        x.load(MOST - 1, 1, 2, 0, LEAST);
        Check.due("greatest of least ints", x.greatest(0, LEAST, MOST), LEAST);
        Check.due("greatest in a snapshot", x.greatest(1, 0, 30), 3);
    }

    private static void promise17Differs() {
        OrderedVersions x = five();
        refusesOtherNumbers("differs first", x, version -> x.differs(version, 0));
        refusesOtherNumbers("differs second", x, version -> x.differs(0, version));
        x.snapshot();
        Check.due("differs from its snapshot", x.differs(0, 1), 0);
        x.put(10, 2);
        Check.due("differs by a value", x.differs(0, 1), 1);
        x.remove(30);
        Check.due("differs by a key gone", x.differs(0, 1), 2);
        x.put(60, 6);
        x.put(5, 6);
        Check.due("differs by keys come", x.differs(0, 1), 4);
        Check.due("differs the other way", x.differs(1, 0), 4);
        Check.due("differs from itself", x.differs(1, 1), 0);
        x.cut(LEAST, MOST);
        Check.due("differs from nothing", x.differs(0, 1), 5);
        Check.due("differs, nothing first", x.differs(1, 0), 5);
        x.load(0, 2, 600, 1, 0);
        x.snapshot();
        x.load(1, 2, 600, 1, 0);
        Check.due("differs by all", x.differs(0, 2), 1200);
    }

    private static void promise18FirstDifference() {
        OrderedVersions x = five();
        refusesOtherNumbers("firstDifference first", x, version -> x.firstDifference(version, 0));
        refusesOtherNumbers("firstDifference second", x, version -> x.firstDifference(0, version));
        x.snapshot();
        Check.refused("firstDifference of none", Check.NO_ELEMENT, () -> x.firstDifference(0, 1));
        Check.refused("firstDifference from itself", Check.NO_ELEMENT, () -> x.firstDifference(0, 0));
        x.put(60, 6);
        Check.due("firstDifference at the end", x.firstDifference(0, 1), 60);
        Check.due("firstDifference at the end, other way", x.firstDifference(1, 0), 60);
        x.put(50, 4);
        Check.due("firstDifference by a value", x.firstDifference(0, 1), 50);
        x.remove(30);
        Check.due("firstDifference by a key gone", x.firstDifference(0, 1), 30);
        Check.due("firstDifference by a key gone, other way", x.firstDifference(1, 0), 30);
        x.put(LEAST, 0);
        Check.due("firstDifference by a key come", x.firstDifference(0, 1), LEAST);
        x.cut(LEAST, MOST);
        Check.due("firstDifference from nothing", x.firstDifference(0, 1), 10);
    }

    private static void promise19Open() {
        OrderedVersions x = five();
        refusesOtherNumbers("open", x, version -> x.open(version, 0, false));
        Check.due("open at a key", x.open(0, 20, false), 0);
        Check.due("open above a key", x.open(0, 21, false), 1);
        Check.due("open down at a key", x.open(0, 20, true), 2);
        Check.due("open down above a key", x.open(0, 29, true), 3);
        Check.due("open at the least int", x.open(0, LEAST, false), 4);
        Check.due("open down at the greatest int", x.open(0, MOST, true), 5);
        Check.due("open at the end", x.open(0, 51, false), 6);
        Check.due("open down at the end", x.open(0, 9, true), 7);
        Check.refused("open a ninth", Check.TOO_MANY, () -> x.open(0, 0, false));
        Check.refused("open of no version comes first", Check.NO_INDEX, () -> x.open(1, 0, false));
        int[] keys = {20, 30, 20, 20, 10, 50};
        for (int cursor = 0; cursor < keys.length; cursor++) {
            Check.due("opened " + cursor, x.next(cursor), keys[cursor]);
        }
        Check.refused("opened at the end", Check.NO_ELEMENT, () -> x.next(6));
        Check.refused("opened down at the end", Check.NO_ELEMENT, () -> x.next(7));
        x.close(5);
        x.close(2);
        Check.due("open takes the least number", x.open(0, 40, true), 2);
        Check.due("open anew", x.next(2), 40);
        Check.due("open anew goes down", x.next(2), 30);
        Check.due("open takes the next number", x.open(0, 40, false), 5);
        Check.due("open anew upward", x.next(5), 40);
        Check.due("open anew goes up", x.next(5), 50);
    }

    private static void promise19OpenGoesOverTheMapAsItWas() {
        OrderedVersions x = five();
        x.open(0, LEAST, false);
        x.snapshot();
        x.open(1, MOST, true);
        x.put(15, 9);
        x.put(20, 9);
        x.remove(30);
        x.release(1);
        x.load(0, 1, 600, 0, 0);
        x.snapshot();
        for (int i = 1; i <= 5; i++) {
            int value = i % 2 == 0 ? -i : i;
            int down = 6 - i;
            Check.due("value as it was", x.peek(0), value);
            Check.due("key as it was", x.next(0), 10 * i);
            Check.due("value as the snapshot was", x.peek(1), down % 2 == 0 ? -down : down);
            Check.due("key as the snapshot was", x.next(1), 10 * down);
        }
        Check.refused("end as it was", Check.NO_ELEMENT, () -> x.next(0));
        Check.refused("end as the snapshot was", Check.NO_ELEMENT, () -> x.next(1));
    }

    private static void promise20Next() {
        OrderedVersions x = five();
        refusesOtherNumbers("next", x, x::next);
        Check.refused("next of none", Check.NO_INDEX, () -> x.next(0));
        x.open(0, 30, false);
        x.open(0, 30, true);
        int[] up = {30, 40, 50};
        int[] down = {30, 20, 10};
        for (int i = 0; i < 3; i++) {
            Check.due("next up", x.next(0), up[i]);
            Check.due("next down", x.next(1), down[i]);
        }
        Check.refused("next at the end", Check.NO_ELEMENT, () -> x.next(0));
        Check.refused("next at the end again", Check.NO_ELEMENT, () -> x.next(0));
        Check.refused("next down at the end", Check.NO_ELEMENT, () -> x.next(1));
        x.put(60, 6);
        Check.refused("next does not see what comes later", Check.NO_ELEMENT, () -> x.next(0));
        OrderedVersions y = new OrderedVersions();
        y.open(0, 0, false);
        Check.refused("next in an empty map", Check.NO_ELEMENT, () -> y.next(0));
    }

    private static void promise21Skip() {
        OrderedVersions x = five();
        refusesOtherNumbers("skip", x, cursor -> x.skip(cursor, 1));
        Check.refused("skip of no cursor comes first", Check.NO_INDEX, () -> x.skip(0, -1));
        x.open(0, 20, false);
        x.open(0, 40, true);
        Check.refused("skip -1", Check.BAD_ARGUMENT, () -> x.skip(0, -1));
        Check.refused("skip least", Check.BAD_ARGUMENT, () -> x.skip(0, LEAST));
        Check.due("skip 0", x.skip(0, 0), 0);
        Check.due("skip leaves the place", x.peek(0), -2);
        Check.due("skip 2", x.skip(0, 2), 2);
        Check.due("skip down 3", x.skip(1, 3), 3);
        Check.due("skipped to", x.next(0), 40);
        Check.due("skipped down to", x.next(1), 10);
        Check.due("skip past the end", x.skip(0, MOST), 1);
        Check.due("skip at the end", x.skip(0, MOST), 0);
        Check.due("skip down at the end", x.skip(1, 1), 0);
        Check.refused("skip -1 at the end", Check.BAD_ARGUMENT, () -> x.skip(1, -1));
        Check.refused("skipped to the end", Check.NO_ELEMENT, () -> x.next(0));
    }

    private static void promise22Peek() {
        OrderedVersions x = five();
        refusesOtherNumbers("peek", x, x::peek);
        x.open(0, 40, false);
        x.open(0, 20, true);
        Check.due("peek", x.peek(0), -4);
        Check.due("peek stays", x.peek(0), -4);
        Check.due("peek down", x.peek(1), -2);
        x.put(40, 44);
        x.remove(20);
        Check.due("peek as it was", x.peek(0), -4);
        Check.due("peek at what is gone", x.peek(1), -2);
        x.next(0);
        Check.due("peek at the last", x.peek(0), 5);
        x.next(0);
        Check.refused("peek at the end", Check.NO_ELEMENT, () -> x.peek(0));
        x.skip(1, 9);
        Check.refused("peek down at the end", Check.NO_ELEMENT, () -> x.peek(1));
    }

    private static void promise23Close() {
        OrderedVersions x = five();
        refusesOtherNumbers("close", x, x::close);
        for (int cursor = 0; cursor < 8; cursor++) {
            x.open(0, 10, false);
        }
        Check.refused("close 8", Check.NO_INDEX, () -> x.close(8));
        Check.due("close 3", x.close(3), 7);
        Check.refused("close 3 again", Check.NO_INDEX, () -> x.close(3));
        Check.refused("closed has no next", Check.NO_INDEX, () -> x.next(3));
        Check.refused("closed has no peek", Check.NO_INDEX, () -> x.peek(3));
        Check.refused("closed has no skip", Check.NO_INDEX, () -> x.skip(3, 0));
        Check.due("close 0", x.close(0), 6);
        Check.due("others stay", x.next(7), 10);
        Check.due("close at the end", x.skip(7, MOST), 4);
        Check.due("close 7", x.close(7), 5);
        int[] rest = {1, 2, 4, 5, 6};
        for (int i = 0; i < rest.length; i++) {
            Check.due("close the rest", x.close(rest[i]), 4 - i);
        }
    }

    private static void promise24Astray() {
        OrderedVersions x = new OrderedVersions();
        Check.due("astray of nothing", x.astray(), 0);
        x.load(LEAST, 7_000_000, 600, 3, 3);
        x.snapshot();
        x.open(0, 0, true);
        Check.due("astray of full maps", x.astray(), 0);
        x.cut(LEAST, 0);
        x.snapshot();
        x.open(1, 0, false);
        x.merge(1);
        Check.due("astray after merge", x.astray(), 0);
        x.release(1);
        x.skip(1, 5);
        x.close(0);
        Check.due("astray after release and close", x.astray(), 0);
        x.restore(2);
        x.release(2);
        x.close(1);
        x.cut(LEAST, MOST);
        Check.due("astray after all is gone", x.astray(), 0);
    }
}
