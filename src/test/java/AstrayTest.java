import java.lang.reflect.Array;
import java.lang.reflect.Field;

/** Promise 24: astray is 0 whatever was called, and not because it does not look. */
public final class AstrayTest {
    private static final int LEAST = Sample.LEAST;
    private static final int MOST = Sample.MOST;

    private AstrayTest() {
    }

    public static void main(String[] args) throws IllegalAccessException {
        Sentences.run(AstrayTest.class);
    }

    @Says(promise = 24, words = "always 0")
    static void promise24_ofANewObject() {
        Check.due("astray", new OrderedVersions().astray(), 0);
    }

    @Says(promise = 24, words = "always 0")
    static void promise24_whenAllIsFull() {
        Check.due("astray", Twins.fullOfAll().astray(), 0);
    }

    @Says(promise = 24, words = "always 0")
    static void promise24_atTheLeastAndTheGreatestInt() {
        OrderedVersions x = Sample.ends();
        x.snapshot();
        x.open(0, LEAST, true);
        x.open(0, MOST, false);
        Check.due("three keys", x.astray(), 0);
        x.load(LEAST, 7_170_229, 600, 3, 3);
        Check.due("600 keys over all ints", x.astray(), 0);
    }

    @Says(promise = 24, words = "always 0")
    static void promise24_afterEachChange() {
        OrderedVersions x = new OrderedVersions();
        x.load(0, 2, 599, 1, 0);
        Check.due("load", x.astray(), 0);
        x.put(1, 1);
        Check.due("put", x.astray(), 0);
        x.snapshot();
        Check.due("snapshot", x.astray(), 0);
        x.remove(0);
        Check.due("remove", x.astray(), 0);
        x.cut(3, 300);
        Check.due("cut", x.astray(), 0);
        x.merge(1);
        Check.due("merge", x.astray(), 0);
        x.restore(1);
        Check.due("restore", x.astray(), 0);
        x.cut(LEAST, MOST);
        Check.due("cut of all", x.astray(), 0);
    }

    @Says(promise = 24, words = "always 0")
    static void promise24_afterEachStepOfACursor() {
        OrderedVersions x = Sample.five();
        x.open(0, 10, false);
        Check.due("open", x.astray(), 0);
        x.next(0);
        Check.due("next", x.astray(), 0);
        x.skip(0, 2);
        Check.due("skip", x.astray(), 0);
        x.skip(0, MOST);
        Check.due("skip to the end", x.astray(), 0);
        x.close(0);
        Check.due("close", x.astray(), 0);
        x.open(0, 30, true);
        x.close(0);
        Check.due("close on its way", x.astray(), 0);
    }

    @Says(promise = 24, words = "always 0")
    static void promise24_afterAllIsGoneAgain() {
        OrderedVersions x = Twins.fullOfAll();
        for (int number = 1; number <= 12; number++) {
            x.release(number);
            Check.due("release " + number, x.astray(), 0);
        }
        for (int cursor = 0; cursor < 8; cursor++) {
            x.close(cursor);
            Check.due("close " + cursor, x.astray(), 0);
        }
        x.cut(LEAST, MOST);
        Check.due("cut", x.astray(), 0);
    }

    @Says(promise = 24, words = "always 0")
    static void promise24_afterCallsThatThrow() {
        OrderedVersions x = Twins.fullOfAll();
        Check.refused("put", Check.TOO_MANY, () -> x.put(-1, 0) ? 1 : 0);
        Check.refused("load", Check.BAD_ARGUMENT, () -> x.load(0, 1, 601, 0, 0));
        Check.refused("snapshot", Check.TOO_MANY, x::snapshot);
        Check.refused("open", Check.TOO_MANY, () -> x.open(0, 0, false));
        Check.refused("skip", Check.BAD_ARGUMENT, () -> x.skip(0, -1));
        Check.due("astray", x.astray(), 0);
    }

    @Says(promise = 24, words = "keys out of order")
    static void promise24_keysOutOfOrderAreCounted() throws ReflectiveOperationException {
        OrderedVersions x = sample();
        ((int[]) field(row(x, "versions", 0), "keys"))[7] = 60;
        Check.due("two keys alike in the present map", x.astray(), 1);
        ((int[]) field(row(x, "versions", 1), "keys"))[19] = -5;
        Check.due("a key out of order in a snapshot too", x.astray(), 2);
        ((int[]) field(row(x, "trails", 0), "keys"))[0] = 11;
        Check.due("a key out of order under a cursor too", x.astray(), 3);
    }

    @Says(promise = 24, words = "sums or counts that are not right")
    static void promise24_aCursorsCountThatIsNotRightIsCounted() throws ReflectiveOperationException {
        OrderedVersions x = sample();
        ((int[]) field(x, "left"))[0] = 21;
        Check.due("more keys left than there are", x.astray(), 1);
        ((int[]) field(x, "left"))[0] = -1;
        Check.due("fewer keys left than none", x.astray(), 1);
        ((int[]) field(x, "left"))[0] = 0;
        ((int[]) field(x, "left"))[5] = 1;
        Check.due("keys left of no cursor", x.astray(), 1);
    }

    @Says(promise = 24, words = "parts that are too small, too full")
    static void promise24_aMapTooSmallOrTooFullIsCounted() throws ReflectiveOperationException {
        OrderedVersions x = sample();
        Object row = row(x, "versions", 1);
        open(row, "size").setInt(row, 601);
        Check.due("more than 600 keys", x.astray(), 1);
        open(row, "size").setInt(row, -1);
        Check.due("fewer than none", x.astray(), 1);
    }

    @Says(promise = 24, words = "or that nothing has any more")
    static void promise24_keysThatNothingHasAreCounted() throws ReflectiveOperationException {
        OrderedVersions x = sample();
        Object row = row(x, "versions", 1);
        open(row, "held").setBoolean(row, false);
        Check.due("keys of no snapshot", x.astray(), 20);
        OrderedVersions y = new OrderedVersions();
        Object present = row(y, "versions", 0);
        open(present, "held").setBoolean(present, false);
        Check.due("a present map that is not held", y.astray(), 1);
    }

    private static OrderedVersions sample() {
        OrderedVersions x = new OrderedVersions();
        x.load(0, 10, 20, 1, 0);
        x.snapshot();
        x.open(1, 50, false);
        Check.due("astray before", x.astray(), 0);
        return x;
    }

    private static Object field(Object owner, String name) throws ReflectiveOperationException {
        return open(owner, name).get(owner);
    }

    private static Field open(Object owner, String name) throws ReflectiveOperationException {
        Field field = owner.getClass().getDeclaredField(name);
        field.setAccessible(true);
        return field;
    }

    private static Object row(OrderedVersions x, String shelf, int number) throws ReflectiveOperationException {
        return Array.get(field(field(x, shelf), "rows"), number);
    }
}
