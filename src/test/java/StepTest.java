/** Promises 5 to 9: step, state, holder, events, event. A full trace is looked at by EdgesOfStepsTest. */
final class StepTest {
    private static final String INDEX = Calls.INDEX;
    private static final String STATE = Calls.STATE;
    private static final String INFEASIBLE = Calls.INFEASIBLE;
    private static final int MIN = Integer.MIN_VALUE;
    private static final int MAX = Integer.MAX_VALUE;
    private static final Check CHECK = new Check();

    /** A step that has to answer this, with all else as it was. */
    private static void dueUnchanged(String what, RaceWatch x, int t, String want) {
        Calls.dueUnchanged(CHECK, what, x, t, want);
    }

    private static void wrongThreads() {
        RaceWatch x = Calls.added(Calls.row(0, 0, 0));
        dueUnchanged("not started", x, 0, STATE);
        dueUnchanged("not started, no such thread", x, 5, INDEX);
        for (int t : new int[] {-1, 5, MIN, MAX}) {
            dueUnchanged("thread " + t, Calls.started(false, Calls.row(0, 0, 0)), t, INDEX);
        }
        x.start(false);
        for (int t = 1; t < 5; t++) {
            dueUnchanged("new thread " + t, x, t, STATE);
        }
        CHECK.due("running", Calls.step(x, 0), "1");
        dueUnchanged("ended", x, 0, STATE);
    }

    private static void answersByOp() {
        RaceWatch x = Calls.started(false,
                Calls.row(0, 0, 7), Calls.row(0, 1, 6), Calls.row(0, 2, 2), Calls.row(0, 3, 2),
                Calls.row(0, 4, 1), Calls.row(0, 5, 1), Calls.row(0, 6, 3), Calls.row(0, 10, 5),
                Calls.row(0, 8, 9), Calls.row(0, 11, 0), Calls.row(0, 9, 9), Calls.row(0, 12, 0, 0),
                Calls.row(3, 11, 0));
        String answers = "1 1 1 1 1 1 1 2 1 2 1 2";
        StringBuilder got = new StringBuilder();
        for (int n = 0; n < 12; n++) {
            CHECK.due("state before instruction " + n, x.state(0) & 63, 1 + 4 * n);
            got.append(n == 0 ? "" : " ").append(Calls.step(x, 0));
        }
        CHECK.due("answers", got.toString(), answers);
        CHECK.due("LOOP went back", x.state(0), 1 + 64 * 5);
        CHECK.due("events", x.events(), 9);
        int[] ops = {0, 1, 2, 3, 4, 5, 6, 8, 9};
        int[] of = {7, 6, 2, 2, 1, 1, 3, 4 + 1, 4 + 2};
        for (int k = 0; k < 9; k++) {
            CHECK.due("event " + k, x.event(k), 8 * ops[k] + 128 * of[k]);
        }
        for (int k : new int[] {-1, 9, MIN, MAX, 199, 200}) {
            CHECK.due("event " + k, x.event(k), -1);
        }
    }

    private static void registers() {
        RaceWatch x = Calls.started(false,
                Calls.row(0, 11, 0), Calls.row(0, 10, -1), Calls.row(0, 8, 0), Calls.row(0, 10, 3),
                Calls.row(0, 9, 0), Calls.row(0, 12, 0, 4), Calls.row(0, 11, 0));
        Calls.go(x, 0);
        CHECK.due("NEXT from 0", x.state(0), 1 + 4 + 64);
        Calls.go(x, 0);
        CHECK.due("SET to -1", x.state(0), 1 + 4 * 2 - 64);
        Calls.go(x, 0);
        CHECK.due("-1 & 3 is 3", x.event(0), 8 * 8 + 128 * 7);
        Calls.go(x, 0, 0, 0);
        CHECK.due("LOOP with 3", x.state(0), 1 + 4 * 4 + 64 * 2);
        Calls.go(x, 0, 0);
        CHECK.due("LOOP with 2", x.state(0), 1 + 4 * 4 + 64 * 1);
        Calls.go(x, 0, 0);
        CHECK.due("LOOP with 1 goes on", x.state(0), 1 + 4 * 6);
        Calls.go(x, 0);
        CHECK.due("ended", x.state(0), 2 + 4 * 7 + 64);
        int[] of = {7, 7, 6, 5};
        for (int k = 0; k < 4; k++) {
            CHECK.due("variable of event " + k, x.event(k) >> 7, of[k]);
        }
    }

    private static void loopsAtZero() {
        RaceWatch x = Calls.started(false, Calls.row(0, 10, 0), Calls.row(0, 12, 0, 0), Calls.row(0, 12, 0, 0));
        Calls.go(x, 0, 0);
        CHECK.due("LOOP with 0 falls to -1", x.state(0), 1 + 4 * 2 - 64);
        Calls.go(x, 0);
        CHECK.due("LOOP as the last ends", x.state(0), 2 + 4 * 3 - 128);
    }

    /** The document says that the register grows and falls, and tells of no wrap-around. */
    private static void largeRegisters() {
        RaceWatch x = Calls.started(false, Calls.row(0, 10, MAX), Calls.row(0, 11, 0), Calls.row(0, 8, 0),
                Calls.row(0, 12, 0, 1));
        Calls.go(x, 0);
        CHECK.due("SET to MAX", x.state(0), 1 + 4 + 64L * MAX);
        Calls.go(x, 0);
        CHECK.due("grown", x.state(0), 1 + 4 * 2 + 64 * (MAX + 1L));
        Calls.go(x, 0, 0);
        CHECK.due("variable", x.event(0), 8 * 8 + 128 * 4);
        CHECK.due("looped", x.state(0), 1 + 4 + 64L * MAX);
        RaceWatch y = Calls.started(false, Calls.row(0, 10, MIN), Calls.row(0, 12, 0, 0), Calls.row(0, 11, 0));
        Calls.go(y, 0);
        CHECK.due("SET to MIN", y.state(0), 1 + 4 + 64L * MIN);
        Calls.go(y, 0);
        CHECK.due("fallen", y.state(0), 1 + 4 * 2 + 64 * (MIN - 1L));
    }

    private static void eachHasItsRegister() {
        RaceWatch x = Calls.started(false, Calls.row(0, 10, 9), Calls.row(0, 6, 4), Calls.row(4, 11, 0), Calls.row(4, 9, 0));
        Calls.go(x, 0, 0);
        CHECK.due("a forked one begins with 0", x.state(4), 1);
        Calls.go(x, 4, 4);
        CHECK.due("its own register", x.event(1), 4 + 8 * 9 + 128 * 5);
        CHECK.due("the forker's", x.state(0), 2 + 4 * 2 + 64 * 9);
    }

    private static void locks() {
        RaceWatch x = Calls.started(false,
                Calls.row(0, 6, 1), Calls.row(0, 2, 1), Calls.row(0, 2, 1), Calls.row(0, 3, 1), Calls.row(0, 3, 1), Calls.row(0, 3, 1),
                Calls.row(1, 2, 2), Calls.row(1, 2, 1), Calls.row(1, 2, 1), Calls.row(1, 3, 0));
        CHECK.due("nobody holds", x.holder(1), -1);
        Calls.go(x, 0, 0, 0);
        CHECK.due("0 holds twice", x.holder(1), 16);
        Calls.go(x, 1);
        CHECK.due("1 holds another", x.holder(2), 1 + 8);
        dueUnchanged("1 waits", x, 1, "0");
        Calls.go(x, 0);
        CHECK.due("0 holds once", x.holder(1), 8);
        dueUnchanged("1 waits still", x, 1, "0");
        Calls.go(x, 0);
        CHECK.due("0 let go", x.holder(1), -1);
        dueUnchanged("a RELEASE too many", x, 0, INFEASIBLE);
        Calls.go(x, 1);
        dueUnchanged("a RELEASE of another's", x, 0, INFEASIBLE);
        Calls.go(x, 1);
        CHECK.due("1 holds twice", x.holder(1), 1 + 16);
        dueUnchanged("a RELEASE of nobody's", x, 1, INFEASIBLE);
        for (int l : new int[] {-1, 3, MIN, MAX}) {
            CHECK.due("holder of " + l, x.holder(l), -1);
        }
    }

    private static void endedHolds() {
        RaceWatch x = Calls.started(false, Calls.row(0, 6, 2), Calls.row(0, 7, 2), Calls.row(0, 2, 0), Calls.row(2, 2, 0));
        Calls.go(x, 0, 2, 0);
        CHECK.due("2 has ended", x.state(2), 2 + 4);
        CHECK.due("2 holds still", x.holder(0), 2 + 8);
        dueUnchanged("0 waits for good", x, 0, "0");
    }

    private static void forkAndJoin() {
        RaceWatch x = Calls.started(false,
                Calls.row(0, 7, 1), Calls.row(1, 0, 0));
        dueUnchanged("JOIN of a new one", x, 0, INFEASIBLE);
        RaceWatch y = Calls.started(false,
                Calls.row(0, 6, 1), Calls.row(0, 6, 2), Calls.row(0, 7, 2), Calls.row(0, 7, 1), Calls.row(0, 7, 1), Calls.row(0, 6, 1),
                Calls.row(1, 11, 0), Calls.row(1, 6, 2));
        Calls.go(y, 0);
        CHECK.due("1 is running", y.state(1), 1);
        Calls.go(y, 0);
        CHECK.due("2 has none and is ended at once", y.state(2), 2);
        dueUnchanged("2 is ended", y, 2, STATE);
        Calls.go(y, 0);
        dueUnchanged("JOIN waits", y, 0, "0");
        Calls.go(y, 1);
        dueUnchanged("JOIN waits still", y, 0, "0");
        dueUnchanged("FORK of an ended one", y, 1, INFEASIBLE);
        dueUnchanged("JOIN waits for one that cannot go on", y, 0, "0");
        RaceWatch z = Calls.started(false,
                Calls.row(0, 6, 1), Calls.row(0, 7, 1), Calls.row(0, 7, 1), Calls.row(0, 6, 1), Calls.row(1, 0, 0));
        Calls.go(z, 0, 1, 0, 0);
        CHECK.due("JOIN twice", z.events(), 4);
        CHECK.due("a JOIN", z.event(3), 8 * 7 + 128);
        dueUnchanged("FORK of an ended one", z, 0, INFEASIBLE);
        RaceWatch w = Calls.started(false, Calls.row(0, 6, 1), Calls.row(0, 6, 1), Calls.row(1, 0, 0));
        Calls.go(w, 0);
        dueUnchanged("FORK of a running one", w, 0, INFEASIBLE);
    }

    private static void outOfRangeState() {
        RaceWatch x = Calls.started(false, Calls.row(0, 0, 0));
        for (int t : new int[] {-1, 5, MIN, MAX}) {
            CHECK.due("state of " + t, x.state(t), -1);
        }
        for (int t = 1; t < 5; t++) {
            CHECK.due("state of new " + t, x.state(t), 0);
        }
        CHECK.due("no events yet", x.events(), 0);
        CHECK.due("no event 0 yet", x.event(0), -1);
    }

    /** The variable is told as if not coarse. */
    private static void eventWhenCoarse() {
        RaceWatch x = Calls.started(true, Calls.row(0, 10, 2), Calls.row(0, 9, 0), Calls.row(0, 0, 7), Calls.row(0, 8, 0));
        Calls.go(x, 0, 0, 0, 0);
        CHECK.due("AWRITE", x.event(0), 8 * 9 + 128 * 6);
        CHECK.due("READ", x.event(1), 128 * 7);
        CHECK.due("AREAD", x.event(2), 8 * 8 + 128 * 6);
    }

    public static void main(String[] args) {
        wrongThreads();
        answersByOp();
        registers();
        loopsAtZero();
        largeRegisters();
        eachHasItsRegister();
        locks();
        endedHolds();
        forkAndJoin();
        outOfRangeState();
        eventWhenCoarse();
        CHECK.end();
    }
}
