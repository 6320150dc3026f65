import java.util.ArrayList;
import java.util.List;
import java.util.NoSuchElementException;
import java.util.TreeMap;
import java.util.TreeSet;

/** Long runs of mixed calls, each answer held against a model of the document made of TreeMaps. */
public final class ModelTest {
    private static final int RUNS = 400;
    private static final int CALLS = 512;
    private static final int[] EDGES = {Integer.MIN_VALUE, Integer.MIN_VALUE + 1, -1, 0, 1,
        Integer.MAX_VALUE - 1, Integer.MAX_VALUE};

    private long seed;
    private final int span;
    private final OrderedVersions real = new OrderedVersions();
    private final Model model = new Model();

    private ModelTest(int run) {
        seed = run * 1_000_003L + 17;
        span = run % 3 == 0 ? 12 : run % 3 == 1 ? 200 : 1500;
    }

    public static void main(String[] args) {
        for (int run = 0; run < RUNS; run++) {
            ModelTest test = new ModelTest(run);
            for (int call = 0; call < CALLS; call++) {
                test.step("run " + run + ", call " + call + ": ");
            }
        }
        Check.finish("ModelTest");
    }

    private int below(int bound) {
        seed = seed * 6364136223846793005L + 1442695040888963407L;
        return (int) ((seed >>> 33) % bound);
    }

    /** Now and then an edge of the ints instead, as no argument is safe from them. */
    private int orEdge(int number) {
        return below(12) == 0 ? EDGES[below(EDGES.length)] : number;
    }

    private int key() {
        return orEdge(below(span) - span / 3);
    }

    private int version() {
        return orEdge(below(15) - 1);
    }

    private int cursor() {
        return orEdge(below(10) - 1);
    }

    private void step(String at) {
        int kind = below(34);
        if (kind < 14) {
            change(at, kind);
        } else if (kind < 24) {
            ask(at, kind);
        } else {
            move(at, kind);
        }
    }

    private void change(String at, int kind) {
        int a = key();
        int b = key();
        int v = version();
        switch (kind) {
            case 0, 1, 2, 3 -> hold(at + "put " + a, () -> real.put(a, b) ? 1 : 0, () -> model.put(a, b));
            case 4, 5 -> hold(at + "remove " + a, () -> real.remove(a), () -> model.remove(a));
            case 6 -> load(at, a, b);
            case 7 -> hold(at + "cut " + a + " " + b, () -> real.cut(a, b), () -> model.cut(a, b));
            case 8, 9 -> hold(at + "merge " + v, () -> real.merge(v), () -> model.merge(v));
            case 10, 11 -> hold(at + "snapshot", () -> real.snapshot(), () -> model.snapshot());
            case 12 -> hold(at + "release " + v, () -> real.release(v), () -> model.release(v));
            default -> hold(at + "restore " + v, () -> real.restore(v), () -> model.restore(v));
        }
    }

    private void load(String at, int first, int more) {
        int step = orEdge(below(5));
        int n = below(6) == 0 ? below(604) - 1 : below(40);
        int times = key();
        hold(at + "load " + first + " " + step + " " + n + " " + times + " " + more,
            () -> real.load(first, step, n, times, more), () -> model.load(first, step, n, times, more));
    }

    private void ask(String at, int kind) {
        int v = version();
        int w = version();
        int a = key();
        int b = key();
        int r = orEdge(below(span) - 2);
        boolean above = below(2) == 0;
        switch (kind) {
            case 14 -> hold(at + "size " + v, () -> real.size(v), () -> model.at(v).size());
            case 15 -> hold(at + "get " + v + " " + a, () -> real.get(v, a), () -> model.get(v, a));
            case 16 -> hold(at + "rank " + v + " " + a, () -> real.rank(v, a), () -> model.at(v).headMap(a).size());
            case 17 -> hold(at + "select " + v + " " + r, () -> real.select(v, r), () -> model.select(v, r));
            case 18 -> hold(at + "near " + v + " " + a + " " + above,
                () -> real.near(v, a, above), () -> model.near(v, a, above));
            case 19 -> hold(at + "sum " + v + " " + a + " " + b, () -> real.sum(v, a, b), () -> model.sum(v, a, b));
            case 20 -> hold(at + "greatest " + v + " " + a + " " + b,
                () -> real.greatest(v, a, b), () -> model.greatest(v, a, b));
            case 21 -> hold(at + "differs " + v + " " + w,
                () -> real.differs(v, w), () -> model.differences(v, w).size());
            case 22 -> hold(at + "firstDifference " + v + " " + w,
                () -> real.firstDifference(v, w), () -> model.firstDifference(v, w));
            default -> hold(at + "astray", () -> real.astray(), () -> 0);
        }
    }

    private void move(String at, int kind) {
        int c = cursor();
        int v = version();
        int a = key();
        int n = orEdge(below(9) - 1);
        boolean down = below(2) == 0;
        switch (kind) {
            case 24, 25 -> hold(at + "open " + v + " " + a + " " + down,
                () -> real.open(v, a, down), () -> model.open(v, a, down));
            case 26, 27, 28 -> hold(at + "next " + c, () -> real.next(c), () -> model.next(c));
            case 29, 30 -> hold(at + "skip " + c + " " + n, () -> real.skip(c, n), () -> model.skip(c, n));
            case 31, 32 -> hold(at + "peek " + c, () -> real.peek(c), () -> model.peek(c));
            default -> hold(at + "close " + c, () -> real.close(c), () -> model.close(c));
        }
    }

    private static void hold(String what, Check.Call real, Check.Call model) {
        Check.same(what, Check.outcome(real), Check.outcome(model));
    }

    /** What a cursor still has to go over, in its order: keys and their values. */
    private static final class Path {
        final List<int[]> rest = new ArrayList<>();
    }

    private static final class Model {
        final List<TreeMap<Integer, Integer>> versions = new ArrayList<>();
        final Path[] paths = new Path[8];

        Model() {
            versions.add(new TreeMap<>());
            for (int i = 1; i <= 12; i++) {
                versions.add(null);
            }
        }

        TreeMap<Integer, Integer> at(int version) {
            if (version < 0 || version > 12 || versions.get(version) == null) {
                throw new IndexOutOfBoundsException();
            }
            return versions.get(version);
        }

        TreeMap<Integer, Integer> snapshotAt(int snapshot) {
            return at(snapshot == 0 ? -1 : snapshot);
        }

        long put(int key, int value) {
            boolean isNew = !at(0).containsKey(key);
            if (isNew && at(0).size() == 600) {
                throw new UnsupportedOperationException();
            }
            at(0).put(key, value);
            return isNew ? 1 : 0;
        }

        long remove(int key) {
            get(0, key);
            return at(0).remove(key);
        }

        long load(int first, int step, int n, int times, int more) {
            if (n < 0 || n > 600 || step < 1) {
                throw new IllegalArgumentException();
            }
            TreeMap<Integer, Integer> map = new TreeMap<>();
            for (long i = 0; i < n; i++) {
                long key = first + i * step;
                if (key > Integer.MAX_VALUE) {
                    throw new IllegalArgumentException();
                }
                map.put((int) key, (int) (times * key + more));
            }
            int before = at(0).size();
            versions.set(0, map);
            return before;
        }

        long cut(int from, int to) {
            int before = at(0).size();
            at(0).keySet().removeIf(key -> from <= key && key <= to);
            return before - at(0).size();
        }

        long merge(int version) {
            TreeMap<Integer, Integer> map = new TreeMap<>(at(version));
            map.putAll(at(0));
            if (map.size() > 600) {
                throw new UnsupportedOperationException();
            }
            int more = map.size() - at(0).size();
            versions.set(0, map);
            return more;
        }

        long snapshot() {
            int number = versions.indexOf(null);
            if (number < 0) {
                throw new UnsupportedOperationException();
            }
            versions.set(number, new TreeMap<>(at(0)));
            return number;
        }

        long release(int snapshot) {
            snapshotAt(snapshot);
            versions.set(snapshot, null);
            return versions.stream().filter(map -> map != null).count() - 1;
        }

        long restore(int snapshot) {
            versions.set(0, new TreeMap<>(snapshotAt(snapshot)));
            return at(0).size();
        }

        long get(int version, int key) {
            return element(at(version).get(key));
        }

        long select(int version, int rank) {
            List<Integer> keys = new ArrayList<>(at(version).keySet());
            return element(rank < 0 || rank >= keys.size() ? null : keys.get(rank));
        }

        long near(int version, int key, boolean above) {
            return element(above ? at(version).ceilingKey(key) : at(version).floorKey(key));
        }

        List<Long> range(int version, int from, int to) {
            List<Long> values = new ArrayList<>();
            at(version).forEach((key, value) -> {
                if (from <= key && key <= to) {
                    values.add((long) value);
                }
            });
            return values;
        }

        long sum(int version, int from, int to) {
            return range(version, from, to).stream().mapToLong(value -> value).sum();
        }

        long greatest(int version, int from, int to) {
            return range(version, from, to).stream().mapToLong(value -> value).max().orElseThrow();
        }

        TreeSet<Integer> differences(int version, int other) {
            TreeMap<Integer, Integer> one = at(version);
            TreeMap<Integer, Integer> two = at(other);
            TreeSet<Integer> keys = new TreeSet<>(one.keySet());
            keys.addAll(two.keySet());
            keys.removeIf(key -> one.containsKey(key) && one.get(key).equals(two.get(key)));
            return keys;
        }

        long firstDifference(int version, int other) {
            return differences(version, other).first();
        }

        long open(int version, int key, boolean down) {
            TreeMap<Integer, Integer> map = at(version);
            for (int number = 0; number < 8; number++) {
                if (paths[number] == null) {
                    Path path = new Path();
                    (down ? map.headMap(key, true).descendingMap() : map.tailMap(key, true))
                        .forEach((k, value) -> path.rest.add(new int[] {k, value}));
                    paths[number] = path;
                    return number;
                }
            }
            throw new UnsupportedOperationException();
        }

        Path path(int cursor) {
            if (cursor < 0 || cursor > 7 || paths[cursor] == null) {
                throw new IndexOutOfBoundsException();
            }
            return paths[cursor];
        }

        int[] standing(int cursor) {
            if (path(cursor).rest.isEmpty()) {
                throw new NoSuchElementException();
            }
            return path(cursor).rest.get(0);
        }

        long next(int cursor) {
            int key = standing(cursor)[0];
            path(cursor).rest.remove(0);
            return key;
        }

        long skip(int cursor, int n) {
            List<int[]> rest = path(cursor).rest;
            if (n < 0) {
                throw new IllegalArgumentException();
            }
            int over = Math.min(n, rest.size());
            rest.subList(0, over).clear();
            return over;
        }

        long peek(int cursor) {
            return standing(cursor)[1];
        }

        long close(int cursor) {
            path(cursor);
            paths[cursor] = null;
            int count = 0;
            for (Path path : paths) {
                count += path == null ? 0 : 1;
            }
            return count;
        }

        static long element(Integer found) {
            if (found == null) {
                throw new NoSuchElementException();
            }
            return found;
        }
    }
}
