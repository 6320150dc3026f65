/** Objects that many tests begin with, and their maps written out. */
final class Sample {
    interface NumberCall {
        long answer(OrderedVersions x, int number);
    }

    static final int LEAST = Integer.MIN_VALUE;
    static final int MOST = Integer.MAX_VALUE;
    static final String FIVE = "10=1 20=-2 30=3 40=-4 50=5";

    private Sample() {
    }

    static OrderedVersions five() {
        OrderedVersions x = new OrderedVersions();
        putFive(x);
        return x;
    }

    /** The keys of FIVE, in no order. */
    static void putFive(OrderedVersions x) {
        x.put(30, 3);
        x.put(10, 1);
        x.put(50, 5);
        x.put(20, -2);
        x.put(40, -4);
    }

    /** Keys 0 .. 599 with values as their keys. */
    static OrderedVersions full() {
        OrderedVersions x = new OrderedVersions();
        x.load(0, 1, 600, 1, 0);
        return x;
    }

    /** The least and the greatest int and 0, with values 1, 2 and 3. */
    static OrderedVersions ends() {
        OrderedVersions x = new OrderedVersions();
        x.put(LEAST, 1);
        x.put(MOST, 2);
        x.put(0, 3);
        return x;
    }

    /** A small map written out: an object is promised for 512 calls alone. */
    static String map(OrderedVersions x, int version) {
        StringBuilder text = new StringBuilder();
        for (int rank = 0; rank < x.size(version); rank++) {
            int key = x.select(version, rank);
            text.append(key).append('=').append(x.get(version, key)).append(' ');
        }
        return text.toString().trim();
    }

    /** The keys that a cursor still goes over, and what else than its end stops it; it is at the end then. */
    static String rest(OrderedVersions x, int cursor) {
        StringBuilder text = new StringBuilder();
        String step = Check.outcome(() -> x.next(cursor));
        for (int steps = 0; steps < 400 && !step.endsWith("Exception"); steps++) {
            text.append(step).append(' ');
            step = Check.outcome(() -> x.next(cursor));
        }
        return text.append(step).toString().replaceFirst(" ?NoSuchElementException$", "");
    }

    /** FIVE as versions 0, 1, 2 and 4 and under cursors 0, 1 and 3; snapshot 3 and cursor 2 are gone. */
    static OrderedVersions withGaps() {
        OrderedVersions x = five();
        for (int i = 0; i < 4; i++) {
            x.snapshot();
            x.open(0, 10, false);
        }
        x.release(3);
        x.close(2);
        return x;
    }

    /** Versions 0 .. 12, and cursors 0 .. 7, all of them FIVE. */
    static OrderedVersions crowded() {
        OrderedVersions x = five();
        for (int i = 0; i < 12; i++) {
            x.snapshot();
        }
        for (int i = 0; i < 8; i++) {
            x.open(0, 10, false);
        }
        return x;
    }

    static void needsVersion(NumberCall call) {
        refusesAll("version", new int[] {LEAST, -1, 3, 5, 12, 13, MOST}, call);
        answersAll("version", new int[] {0, 1, 2, 4}, withGaps(), call);
        answersAll("version of 12", new int[] {0, 1, 12}, crowded(), call);
        Check.refused("version 13 of 12", Check.NO_INDEX, () -> call.answer(crowded(), 13));
    }

    static void needsSnapshot(NumberCall call) {
        refusesAll("snapshot", new int[] {LEAST, -1, 0, 3, 5, 12, 13, MOST}, call);
        answersAll("snapshot", new int[] {1, 2, 4}, withGaps(), call);
        answersAll("snapshot of 12", new int[] {1, 12}, crowded(), call);
        Check.refused("snapshot 13 of 12", Check.NO_INDEX, () -> call.answer(crowded(), 13));
    }

    static void needsCursor(NumberCall call) {
        refusesAll("cursor", new int[] {LEAST, -1, 2, 4, 7, 8, MOST}, call);
        answersAll("cursor", new int[] {0, 1, 3}, withGaps(), call);
        answersAll("cursor of 8", new int[] {0, 7}, crowded(), call);
        Check.refused("cursor 8 of 8", Check.NO_INDEX, () -> call.answer(crowded(), 8));
    }

    private static void refusesAll(String kind, int[] numbers, NumberCall call) {
        for (int number : numbers) {
            Check.refused(kind + " " + number, Check.NO_INDEX, () -> call.answer(withGaps(), number));
        }
    }

    private static void answersAll(String kind, int[] numbers, OrderedVersions x, NumberCall call) {
        for (int number : numbers) {
            String outcome = Check.outcome(() -> call.answer(x, number));
            Check.due(kind + " " + number + " is there", outcome.equals("IndexOutOfBoundsException"), false);
        }
    }
}
