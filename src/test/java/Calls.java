/** Short ways for tests to make a watch and to see a call's answer or the name of what it throws. */
final class Calls {
    static final int READ = 0;
    static final int WRITE = 1;
    static final int ACQUIRE = 2;
    static final int RELEASE = 3;
    static final int VREAD = 4;
    static final int VWRITE = 5;
    static final int FORK = 6;
    static final int JOIN = 7;
    static final int AREAD = 8;
    static final int AWRITE = 9;
    static final int SET = 10;
    static final int NEXT = 11;
    static final int LOOP = 12;

    private Calls() {
    }

    /** Rows of thread, op, a and, where it matters, b. */
    static RaceWatch added(int[]... rows) {
        RaceWatch x = new RaceWatch();
        addTo(x, rows);
        return x;
    }

    static void addTo(RaceWatch x, int[]... rows) {
        for (int[] row : rows) {
            if (x.add(row[0], row[1], row[2], row.length > 3 ? row[3] : 0) < 0) {
                throw new AssertionError("an instruction of a test was refused");
            }
        }
    }

    static RaceWatch started(boolean coarse, int[]... rows) {
        RaceWatch x = added(rows);
        x.start(coarse);
        return x;
    }

    static int[] row(int... numbers) {
        return numbers;
    }

    /** Steps the threads in this order; each has to do its instruction. */
    static void go(RaceWatch x, int... threads) {
        for (int t : threads) {
            if (x.step(t) == 0) {
                throw new AssertionError("thread " + t + " of a test waits");
            }
        }
    }

    static String start(RaceWatch x, boolean coarse) {
        try {
            return "" + x.start(coarse);
        } catch (RuntimeException e) {
            return "throws." + e.getClass().getSimpleName();
        }
    }

    static String step(RaceWatch x, int t) {
        try {
            return "" + x.step(t);
        } catch (RuntimeException e) {
            return "throws." + e.getClass().getSimpleName();
        }
    }

    /** All that the calls without effect answer (but for before), to see that a call changed nothing. */
    static String look(RaceWatch x) {
        StringBuilder text = new StringBuilder();
        for (int t = -1; t <= 5; t++) {
            text.append(" s").append(x.state(t));
        }
        for (int l = 0; l < 3; l++) {
            text.append(" h").append(x.holder(l));
        }
        for (int place = 0; place < 8; place++) {
            text.append(" r").append(x.race(place)).append('/').append(x.partner(place));
        }
        int n = x.events();
        text.append(" n").append(n).append(" e").append(x.event(n - 1)).append(" e").append(x.event(n));
        text.append(" q").append(x.races()).append(" a").append(x.again(n, false)).append(x.again(n, true));
        return text.toString();
    }
}
