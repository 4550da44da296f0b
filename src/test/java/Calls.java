/**
 * Short ways for tests to make a watch and to see a call's answer or the name of what it throws. A test
 * that extends it can use the names as they are.
 */
abstract class Calls {
    static final int MIN = Integer.MIN_VALUE;
    static final int MAX = Integer.MAX_VALUE;
    static final int NO = -1;

    static final String INDEX = "throws.IndexOutOfBoundsException";
    static final String STATE = "throws.IllegalStateException";
    static final String ARGUMENT = "throws.IllegalArgumentException";
    static final String INFEASIBLE = "throws.UnsupportedOperationException";

    static final int READ = 0;
    static final int WRITE = 1;
    static final int ACQUIRE = 2;
    static final int RELEASE = 3;
    static final int VREAD = 4;
    static final int VWRITE = 5;
    static final int FORK = 6;
    static final int JOIN = 7;
    static final int AREAD = 8;
    static final int AWRITE = 9;
    static final int SET = 10;
    static final int NEXT = 11;
    static final int LOOP = 12;

    /** Numbers outside of 0 .. bound less 1, near and far. */
    static int[] outside(int bound) {
        return new int[] {-1, bound, bound + 1, -bound, 2 * bound, 8 * bound, 256, 65536, MIN, MAX};
    }

    /** Rows of thread, op, a and, where it matters, b. */
    static RaceWatch added(int[]... rows) {
        RaceWatch x = new RaceWatch();
        addTo(x, rows);
        return x;
    }

    static void addTo(RaceWatch x, int[]... rows) {
        for (int[] row : rows) {
            if (x.add(row[0], row[1], row[2], row.length > 3 ? row[3] : 0) < 0) {
                throw new AssertionError("an instruction of a test was refused");
            }
        }
    }

    static RaceWatch started(boolean coarse, int[]... rows) {
        RaceWatch x = added(rows);
        x.start(coarse);
        return x;
    }

    static int[] row(int... numbers) {
        return numbers;
    }

    /** Steps the threads in this order; each has to do its instruction. */
    static void go(RaceWatch x, int... threads) {
        for (int t : threads) {
            if (x.step(t) == 0) {
                throw new AssertionError("thread " + t + " of a test waits");
            }
        }
    }

    static String start(RaceWatch x, boolean coarse) {
        try {
            return "" + x.start(coarse);
        } catch (RuntimeException e) {
            return "throws." + e.getClass().getSimpleName();
        }
    }

    static String step(RaceWatch x, int t) {
        try {
            return "" + x.step(t);
        } catch (RuntimeException e) {
            return "throws." + e.getClass().getSimpleName();
        }
    }

    /** All that the calls without effect answer (but for before), to see that a call changed nothing. */
    static String look(RaceWatch x) {
        StringBuilder text = new StringBuilder();
        for (int t = -1; t <= 5; t++) {
            text.append(" s").append(x.state(t));
        }
        for (int l = 0; l < 3; l++) {
            text.append(" h").append(x.holder(l));
        }
        for (int place = 0; place < 8; place++) {
            text.append(" r").append(x.race(place)).append('/').append(x.partner(place));
        }
        int n = x.events();
        text.append(" n").append(n).append(" e").append(x.event(n - 1)).append(" e").append(x.event(n));
        text.append(" q").append(x.races()).append(" a").append(x.again(n, false)).append(x.again(n, true));
        return text.toString();
    }

    /** The look, with each event and each pair of events: for short traces, as a watch has but 512 calls. */
    static String lookAtAll(RaceWatch x) {
        StringBuilder text = new StringBuilder(look(x));
        int n = x.events();
        for (int i = 0; i < n; i++) {
            text.append(" e").append(x.event(i)).append(':');
            for (int j = 0; j < n; j++) {
                text.append(x.before(i, j) ? '1' : '0');
            }
        }
        return text.toString();
    }

    /** A step that has to answer this and to leave all else as it was. */
    static void dueUnchanged(Check check, String what, RaceWatch x, int t, String want) {
        String was = look(x);
        check.due(what, step(x, t), want);
        check.due(what + " changes nothing", look(x), was);
    }

    /**
     * A started watch whose thread 0 has forked thread 1 and done 199 more events, all of variable 0, so
     * that its trace is full; the rows are of the other threads. Thread 1 has done its first few steps.
     */
    static RaceWatch full(int firstOfOne, int[]... rows) {
        RaceWatch x = added(row(0, FORK, 1), row(0, SET, MAX));
        for (int n = 2; n < 11; n++) {
            addTo(x, row(0, READ, 0));
        }
        addTo(x, row(0, LOOP, 0, 2));
        addTo(x, rows);
        x.start(false);
        go(x, 0);
        for (int n = 0; n < firstOfOne; n++) {
            go(x, 1);
        }
        fill(x);
        return x;
    }

    /** Steps thread 0 till 200 events are there; asks for their number but once, as calls are few. */
    static void fill(RaceWatch x) {
        int missing = 200 - x.events();
        for (int n = 0; n < 300 && missing > 0; n++) {
            missing -= x.step(0) == 1 ? 1 : 0;
        }
    }
}
