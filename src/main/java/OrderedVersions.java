import java.util.NoSuchElementException;

/** An ordered map from ints to ints that keeps its past: ../shared/DOC.md says what it promises. */
public final class OrderedVersions {
    private static final int MOST_KEYS = 600;
    private static final int MOST_SNAPSHOTS = 12;
    private static final int MOST_CURSORS = 8;
    private static final int NONE = -1;
    // The greatest power of two within MOST_KEYS: it and its halves, added up, reach every place.
    private static final int WIDEST_STEP = 512;

    private final Row present;
    // Number 0 is the present map and always held, so that snapshots begin at 1.
    private final Shelf versions;
    // A cursor has a row of its own: the version that it was opened on may change or go meanwhile.
    private final Shelf trails;
    // Of each cursor, how many keys it has not yet gone over.
    private final int[] left;
    private final boolean[] downward;

    public OrderedVersions() {
        present = new Row();
        present.held = true;
        versions = new Shelf(MOST_SNAPSHOTS + 1);
        versions.rows[0] = present;
        trails = new Shelf(MOST_CURSORS);
        left = new int[MOST_CURSORS];
        downward = new boolean[MOST_CURSORS];
    }

    public boolean put(int key, int value) throws UnsupportedOperationException {
        int place = present.find(key);
        if (place != NONE) {
            present.values[place] = value;
            return false;
        }
        if (present.size >= MOST_KEYS) {
            throw new UnsupportedOperationException("there are 600 keys");
        }
        present.insert(key, value);
        return true;
    }

    public int remove(int key) throws NoSuchElementException {
        int place = placeIn(present, key);
        int value = present.values[place];
        present.takeOut(place, place + 1);
        return value;
    }

    public int load(int first, int step, int n, int times, int more) throws IllegalArgumentException {
        if (n < 0 || n > MOST_KEYS || step < 1 || runsBeyondInts(first, step, n)) {
            throw new IllegalArgumentException("no such keys can be loaded");
        }
        int before = present.size;
        present.fill(first, step, n, times, more);
        return before;
    }

    public int cut(int from, int to) {
        int start = present.countBelow(from);
        int end = present.countUpTo(to);
        if (start >= end) {
            return 0;
        }
        present.takeOut(start, end);
        return end - start;
    }

    public int merge(int version) throws IndexOutOfBoundsException, UnsupportedOperationException {
        Row other = versionAt(version);
        int more = other.size - present.countShared(other, false);
        if (present.size + more > MOST_KEYS) {
            throw new UnsupportedOperationException("there would be more than 600 keys");
        }
        present.takeOver(other, more);
        return more;
    }

    public int snapshot() throws UnsupportedOperationException {
        int number = versions.freeNumber();
        if (number == NONE) {
            throw new UnsupportedOperationException("there are 12 snapshots");
        }
        versions.keep(number, present);
        return number;
    }

    public int release(int snapshot) throws IndexOutOfBoundsException {
        snapshotAt(snapshot).drop();
        return versions.countHeld() - 1;
    }

    public int restore(int snapshot) throws IndexOutOfBoundsException {
        present.become(snapshotAt(snapshot));
        return present.size;
    }

    public int size(int version) throws IndexOutOfBoundsException {
        return versionAt(version).size;
    }

    public int get(int version, int key) throws IndexOutOfBoundsException, NoSuchElementException {
        Row row = versionAt(version);
        return row.values[placeIn(row, key)];
    }

    public int rank(int version, int key) throws IndexOutOfBoundsException {
        return versionAt(version).countBelow(key);
    }

    public int select(int version, int rank) throws IndexOutOfBoundsException, NoSuchElementException {
        return keyOf(versionAt(version), rank);
    }

    public int near(int version, int key, boolean above) throws IndexOutOfBoundsException, NoSuchElementException {
        Row row = versionAt(version);
        return keyOf(row, above ? row.countBelow(key) : row.countUpTo(key) - 1);
    }

    public long sum(int version, int from, int to) throws IndexOutOfBoundsException {
        Row row = versionAt(version);
        int end = row.countUpTo(to);
        long total = 0;
        for (int place = row.countBelow(from); place < end; place++) {
            total += row.values[place];
        }
        return total;
    }

    public int greatest(int version, int from, int to) throws IndexOutOfBoundsException, NoSuchElementException {
        Row row = versionAt(version);
        int start = row.countBelow(from);
        int end = row.countUpTo(to);
        if (start >= end) {
            throw new NoSuchElementException("the range has no key");
        }
        int most = row.values[start];
        for (int place = start + 1; place < end; place++) {
            most = Math.max(most, row.values[place]);
        }
        return most;
    }

    public int differs(int version, int other) throws IndexOutOfBoundsException {
        Row one = versionAt(version);
        Row two = versionAt(other);
        int shared = one.countShared(two, false);
        int ofJustOne = one.size + two.size - 2 * shared;
        int withOtherValues = shared - one.countShared(two, true);
        return ofJustOne + withOtherValues;
    }

    public int firstDifference(int version, int other) throws IndexOutOfBoundsException, NoSuchElementException {
        Row one = versionAt(version);
        Row two = versionAt(other);
        int place = one.countAlikeFromStart(two);
        if (place >= one.size) {
            return keyOf(two, place);
        }
        if (place >= two.size) {
            return keyOf(one, place);
        }
        return Math.min(one.keys[place], two.keys[place]);
    }

    public int open(int version, int key, boolean down)
        throws IndexOutOfBoundsException, UnsupportedOperationException {
        Row row = versionAt(version);
        int number = trails.freeNumber();
        if (number == NONE) {
            throw new UnsupportedOperationException("there are 8 cursors");
        }
        trails.keep(number, row);
        downward[number] = down;
        left[number] = down ? row.countUpTo(key) : row.size - row.countBelow(key);
        return number;
    }

    public int next(int cursor) throws IndexOutOfBoundsException, NoSuchElementException {
        Row trail = trailAt(cursor);
        int key = trail.keys[placeBefore(trail, cursor)];
        left[cursor]--;
        return key;
    }

    public int skip(int cursor, int n) throws IndexOutOfBoundsException, IllegalArgumentException {
        trailAt(cursor);
        if (n < 0) {
            throw new IllegalArgumentException("a cursor does not go back");
        }
        int over = Math.min(n, left[cursor]);
        left[cursor] -= over;
        return over;
    }

    public int peek(int cursor) throws IndexOutOfBoundsException, NoSuchElementException {
        Row trail = trailAt(cursor);
        return trail.values[placeBefore(trail, cursor)];
    }

    public int close(int cursor) throws IndexOutOfBoundsException {
        trailAt(cursor).drop();
        left[cursor] = 0;
        return trails.countHeld();
    }

    public int astray() {
        int wrong = present.held ? 0 : 1;
        wrong += versions.countWrong() + trails.countWrong();
        for (int cursor = 0; cursor < MOST_CURSORS; cursor++) {
            int most = trails.has(cursor) ? trails.rows[cursor].size : 0;
            if (left[cursor] < 0 || left[cursor] > most) {
                wrong++;
            }
        }
        return wrong;
    }

    private Row versionAt(int version) {
        if (!versions.has(version)) {
            throw new IndexOutOfBoundsException("there is no such version");
        }
        return versions.rows[version];
    }

    private Row snapshotAt(int snapshot) {
        if (snapshot == 0 || !versions.has(snapshot)) {
            throw new IndexOutOfBoundsException("there is no such snapshot");
        }
        return versions.rows[snapshot];
    }

    private Row trailAt(int cursor) {
        if (!trails.has(cursor)) {
            throw new IndexOutOfBoundsException("there is no such cursor");
        }
        return trails.rows[cursor];
    }

    private int placeBefore(Row trail, int cursor) {
        if (left[cursor] < 1) {
            throw new NoSuchElementException("the cursor is at the end");
        }
        return downward[cursor] ? left[cursor] - 1 : trail.size - left[cursor];
    }

    private static int placeIn(Row row, int key) {
        int place = row.find(key);
        if (place == NONE) {
            throw new NoSuchElementException("there is no such key");
        }
        return place;
    }

    private static int keyOf(Row row, int place) {
        if (place < 0 || place >= row.size) {
            throw new NoSuchElementException("there is no such key");
        }
        return row.keys[place];
    }

    private static boolean runsBeyondInts(int first, int step, int n) {
        return n > 0 && first + (long) step * (n - 1) > Integer.MAX_VALUE;
    }

    /**
     * One map: its keys in rising order, each value at its key's place. A row that is let go of
     * stays where it is and is used again, so that a run makes few of them.
     */
    private static final class Row {
        final int[] keys;
        final int[] values;
        int size;
        boolean held;

        Row() {
            keys = new int[MOST_KEYS];
            values = new int[MOST_KEYS];
        }

        int countBelow(int key) {
            int count = 0;
            for (int step = WIDEST_STEP; step > 0; step /= 2) {
                int reach = count + step;
                if (reach <= size && keys[reach - 1] < key) {
                    count = reach;
                }
            }
            return count;
        }

        // Not countBelow(key + 1), which would run over at the greatest int.
        int countUpTo(int key) {
            int count = countBelow(key);
            return count < size && keys[count] == key ? count + 1 : count;
        }

        int find(int key) {
            int place = countBelow(key);
            return place < size && keys[place] == key ? place : NONE;
        }

        void insert(int key, int value) {
            int place = countBelow(key);
            System.arraycopy(keys, place, keys, place + 1, size - place);
            System.arraycopy(values, place, values, place + 1, size - place);
            keys[place] = key;
            values[place] = value;
            size++;
        }

        void takeOut(int start, int end) {
            System.arraycopy(keys, end, keys, start, size - end);
            System.arraycopy(values, end, values, start, size - end);
            size -= end - start;
        }

        void fill(int first, int step, int n, int times, int more) {
            for (int place = 0; place < n; place++) {
                int key = first + place * step;
                keys[place] = key;
                values[place] = times * key + more;
            }
            size = n;
        }

        void become(Row other) {
            System.arraycopy(other.keys, 0, keys, 0, other.size);
            System.arraycopy(other.values, 0, values, 0, other.size);
            size = other.size;
            held = true;
        }

        void drop() {
            size = 0;
            held = false;
        }

        /** Goes from the last place down, so that no key is written over before it has been moved. */
        void takeOver(Row other, int more) {
            int mine = size - 1;
            int theirs = other.size - 1;
            size += more;
            for (int to = size - 1; to > mine && theirs >= 0; to--) {
                boolean both = mine >= 0 && keys[mine] == other.keys[theirs];
                if (both || mine >= 0 && keys[mine] > other.keys[theirs]) {
                    keys[to] = keys[mine];
                    values[to] = values[mine];
                    mine--;
                    theirs -= both ? 1 : 0;
                } else {
                    keys[to] = other.keys[theirs];
                    values[to] = other.values[theirs];
                    theirs--;
                }
            }
        }

        int countShared(Row other, boolean valuesToo) {
            int count = 0;
            int theirs = 0;
            for (int mine = 0; mine < size; mine++) {
                theirs = other.passBelow(keys[mine], theirs);
                if (theirs < other.size && keys[mine] == other.keys[theirs]
                    && (!valuesToo || values[mine] == other.values[theirs])) {
                    count++;
                }
            }
            return count;
        }

        int countAlikeFromStart(Row other) {
            int most = Math.min(size, other.size);
            int count = 0;
            while (count < most && keys[count] == other.keys[count] && values[count] == other.values[count]) {
                count++;
            }
            return count;
        }

        int passBelow(int key, int start) {
            int place = start;
            while (place < size && keys[place] < key) {
                place++;
            }
            return place;
        }

        int countWrong() {
            if (size < 0 || size > MOST_KEYS) {
                return 1;
            }
            int wrong = held ? 0 : size;
            for (int place = 1; place < size; place++) {
                if (keys[place - 1] >= keys[place]) {
                    wrong++;
                }
            }
            return wrong;
        }
    }

    /** Rows under numbers; a number is free while its row is not held. */
    private static final class Shelf {
        final Row[] rows;

        Shelf(int length) {
            rows = new Row[length];
        }

        boolean has(int number) {
            return number >= 0 && number < rows.length && rows[number] != null && rows[number].held;
        }

        int freeNumber() {
            for (int number = 0; number < rows.length; number++) {
                if (!has(number)) {
                    return number;
                }
            }
            return NONE;
        }

        int countHeld() {
            int count = 0;
            for (int number = 0; number < rows.length; number++) {
                if (has(number)) {
                    count++;
                }
            }
            return count;
        }

        /** A row is made when its number is first wanted: a call makes one at most, an object few. */
        void keep(int number, Row row) {
            if (rows[number] == null) {
                rows[number] = new Row();
            }
            rows[number].become(row);
        }

        int countWrong() {
            int wrong = 0;
            for (int number = 0; number < rows.length; number++) {
                if (rows[number] != null) {
                    wrong += rows[number].countWrong();
                }
            }
            return wrong;
        }
    }
}
