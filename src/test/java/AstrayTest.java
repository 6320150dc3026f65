import java.lang.reflect.Array;
import java.lang.reflect.Field;

/** Spoils what an object keeps, from outside, to see that astray looks at it and does not just say 0. */
public final class AstrayTest {
    private AstrayTest() {
    }

    public static void main(String[] args) throws ReflectiveOperationException {
        keysOutOfOrder();
        wrongCounts();
        wrongCursor();
        rowsThatNothingHas();
        Check.finish("AstrayTest");
    }

    private static OrderedVersions sample() {
        OrderedVersions x = new OrderedVersions();
        x.load(0, 10, 20, 1, 0);
        x.snapshot();
        x.open(1, 50, false);
        Check.due("astray before", x.astray(), 0);
        return x;
    }

    private static Object field(Object owner, String name) throws ReflectiveOperationException {
        return open(owner, name).get(owner);
    }

    private static Field open(Object owner, String name) throws ReflectiveOperationException {
        Field field = owner.getClass().getDeclaredField(name);
        field.setAccessible(true);
        return field;
    }

    private static Object row(OrderedVersions x, String shelf, int number) throws ReflectiveOperationException {
        return Array.get(field(field(x, shelf), "rows"), number);
    }

    private static void keysOutOfOrder() throws ReflectiveOperationException {
        OrderedVersions x = sample();
        ((int[]) field(row(x, "versions", 0), "keys"))[7] = 60;
        Check.due("two keys alike in the present map", x.astray(), 1);
        ((int[]) field(row(x, "versions", 1), "keys"))[19] = -5;
        Check.due("a key out of order in a snapshot too", x.astray(), 2);
        ((int[]) field(row(x, "trails", 0), "keys"))[0] = 11;
        Check.due("a key out of order under a cursor too", x.astray(), 3);
    }

    private static void wrongCounts() throws ReflectiveOperationException {
        OrderedVersions x = sample();
        Object row = row(x, "versions", 1);
        open(row, "size").setInt(row, 601);
        Check.due("too many keys", x.astray(), 1);
        open(row, "size").setInt(row, -1);
        Check.due("too few keys", x.astray(), 1);
    }

    private static void wrongCursor() throws ReflectiveOperationException {
        OrderedVersions x = sample();
        ((int[]) field(x, "left"))[0] = 21;
        Check.due("a cursor before its map", x.astray(), 1);
        ((int[]) field(x, "left"))[0] = -1;
        Check.due("a cursor behind its map", x.astray(), 1);
        ((int[]) field(x, "left"))[0] = 0;
        ((int[]) field(x, "left"))[5] = 1;
        Check.due("a place of no cursor", x.astray(), 1);
    }

    private static void rowsThatNothingHas() throws ReflectiveOperationException {
        OrderedVersions x = sample();
        Object row = row(x, "versions", 1);
        open(row, "held").setBoolean(row, false);
        Check.due("keys that nothing has", x.astray(), 20);
        OrderedVersions y = new OrderedVersions();
        Object present = row(y, "versions", 0);
        open(present, "held").setBoolean(present, false);
        Check.due("a present map that is not held", y.astray(), 1);
    }
}
