/** Promises 1 to 4: a new object, add, clear, start. */
final class ProgramTest {
    private static final String STATE = "throws.IllegalStateException";
    private static final String ARGUMENT = "throws.IllegalArgumentException";
    private static final int MIN = Integer.MIN_VALUE;
    private static final int MAX = Integer.MAX_VALUE;
    private static final Check CHECK = new Check();

    private static void dueNothing(String when, RaceWatch x) {
        for (int n = -1; n <= 8; n++) {
            CHECK.due(when + ": state " + n, x.state(n), -1);
            CHECK.due(when + ": holder " + n, x.holder(n), -1);
            CHECK.due(when + ": event " + n, x.event(n), -1);
            CHECK.due(when + ": race " + n, x.race(n), -1);
            CHECK.due(when + ": partner " + n, x.partner(n), -1);
        }
        CHECK.due(when + ": events", x.events(), 0);
        CHECK.due(when + ": races", x.races(), 0);
        CHECK.due(when + ": before", x.before(0, 0) || x.before(0, 1), false);
        CHECK.due(when + ": again(0, false)", x.again(0, false), 0);
        CHECK.due(when + ": again(0, true)", x.again(0, true), 0);
        CHECK.due(when + ": again(1, true)", x.again(1, true), -1);
        CHECK.due(when + ": step", Calls.step(x, 0), STATE);
        CHECK.due(when + ": start of nothing", Calls.start(x, false), ARGUMENT);
        for (int t = 0; t < 5; t++) {
            CHECK.due(when + ": the first of thread " + t, x.add(t, Calls.READ, 0, 0), 0);
        }
    }

    private static void newObject() {
        dueNothing("new", new RaceWatch());
    }

    private static void addNumbers() {
        RaceWatch x = new RaceWatch();
        for (int t = 4; t >= 0; t--) {
            for (int n = 0; n < 12; n++) {
                CHECK.due("add to " + t, x.add(t, n, 1, 0), n);
            }
            CHECK.due("a thirteenth of " + t, x.add(t, 0, 0, 0), -1);
        }
        CHECK.due("a refused one is not counted", Calls.start(Calls.added(Calls.row(0, 0, 0)), false), "1");
    }

    private static void addNames() {
        int[] bounds = {8, 8, 3, 3, 2, 2, 5, 5};
        for (int op = 0; op < bounds.length; op++) {
            RaceWatch x = new RaceWatch();
            CHECK.due("op " + op + " of " + bounds[op], x.add(1, op, bounds[op], 0), -1);
            CHECK.due("op " + op + " of -1", x.add(1, op, -1, 0), -1);
            CHECK.due("op " + op + " of MAX", x.add(1, op, MAX, 0), -1);
            CHECK.due("op " + op + " of MIN", x.add(1, op, MIN, 0), -1);
            CHECK.due("op " + op + " of 0", x.add(1, op, 0, MIN), 0);
            CHECK.due("op " + op + " of the last", x.add(1, op, bounds[op] - 1, MAX), 1);
        }
        for (int op = 8; op <= 12; op++) {
            RaceWatch x = new RaceWatch();
            CHECK.due("op " + op + " with a -1", x.add(2, op, -1, -1), 0);
            CHECK.due("op " + op + " with a MAX", x.add(2, op, MAX, MAX), 1);
            CHECK.due("op " + op + " with a MIN", x.add(2, op, MIN, MIN), 2);
        }
    }

    private static void addRefused() {
        RaceWatch x = new RaceWatch();
        for (int t : new int[] {-1, 5, MIN, MAX}) {
            CHECK.due("add to thread " + t, x.add(t, 0, 0, 0), -1);
        }
        for (int op : new int[] {-1, 13, MIN, MAX}) {
            CHECK.due("add op " + op, x.add(0, op, 0, 0), -1);
        }
        CHECK.due("after refusals", x.add(0, 0, 0, 0), 0);
        x.start(false);
        CHECK.due("add when started", x.add(0, 0, 0, 0), -1);
        CHECK.due("add to another when started", x.add(1, 0, 0, 0), -1);
        CHECK.due("the one instruction", Calls.step(x, 0), "1");
        CHECK.due("it has ended", x.state(0), 2 + 4);
        CHECK.due("add when ended", x.add(0, 0, 0, 0), -1);
    }

    /** A run with a held lock, volatiles, a register, a race: all of it has to be gone after clear. */
    private static void clearForgets() {
        RaceWatch x = Calls.started(true,
                Calls.row(0, 10, 7), Calls.row(0, 6, 1), Calls.row(0, 2, 0), Calls.row(0, 5, 0),
                Calls.row(0, 1, 6), Calls.row(1, 0, 5), Calls.row(1, 2, 1), Calls.row(1, 3, 1));
        Calls.go(x, 0, 0, 0, 0, 0, 1, 1, 1);
        CHECK.due("the race", x.race(4), 4);
        CHECK.due("started", Calls.start(x, true), STATE);
        x.clear();
        dueNothing("cleared", x);
        CHECK.due("start behind clear", Calls.start(x, false), "5");
        CHECK.due("thread 0 anew", x.state(0), 1);
        CHECK.due("thread 1 anew", x.state(1), 0);
        x.clear();
        x.clear();
        dueNothing("cleared again", x);
    }

    /** Clocks of the run before would order accesses that nothing orders now. */
    private static void clearForgetsOrder() {
        RaceWatch x = Calls.started(false,
                Calls.row(0, 6, 1), Calls.row(0, 1, 0), Calls.row(0, 1, 0), Calls.row(0, 2, 0), Calls.row(0, 3, 0),
                Calls.row(0, 5, 0), Calls.row(1, 4, 0), Calls.row(1, 2, 0), Calls.row(1, 3, 0));
        Calls.go(x, 0, 0, 0, 0, 0, 0, 1, 1, 1);
        CHECK.due("ordered by lock and volatile", x.before(1, 6) && x.before(4, 7), true);
        x.clear();
        Calls.addTo(x, Calls.row(0, 6, 1), Calls.row(0, 1, 0), Calls.row(1, 4, 0), Calls.row(1, 2, 0), Calls.row(1, 1, 0));
        x.start(false);
        Calls.go(x, 0, 0, 1, 1, 1);
        CHECK.due("no order is left", x.before(1, 4), false);
        CHECK.due("race at the last", x.race(0), 4);
        CHECK.due("its partner", x.partner(0), 1);
    }

    private static void startCounts() {
        CHECK.due("one", Calls.start(Calls.added(Calls.row(0, 0, 0)), true), "1");
        RaceWatch x = Calls.added(Calls.row(0, 0, 0), Calls.row(4, 0, 0), Calls.row(4, 0, 0), Calls.row(2, 11, 0));
        CHECK.due("those of all threads", Calls.start(x, false), "4");
        CHECK.due("started twice", Calls.start(x, false), STATE);
        CHECK.due("started twice, coarse", Calls.start(x, true), STATE);
        Calls.go(x, 0);
        CHECK.due("started though thread 0 has ended", Calls.start(x, true), STATE);
        RaceWatch full = new RaceWatch();
        for (int n = 0; n < 60; n++) {
            full.add(n / 12, 0, 0, 0);
        }
        CHECK.due("as many as there can be", Calls.start(full, false), "60");
    }

    private static void startVets() {
        CHECK.due("thread 0 has none", Calls.start(Calls.added(Calls.row(1, 0, 0)), false), ARGUMENT);
        for (int t = 0; t < 5; t++) {
            for (int of = 0; of < 5; of++) {
                for (int op = 6; op <= 7; op++) {
                    RaceWatch x = Calls.added(Calls.row(0, 0, 0), Calls.row(t, op, of));
                    CHECK.due("op " + op + " in " + t + " of " + of, Calls.start(x, false), of == 0 || of == t ? ARGUMENT : "2");
                }
            }
        }
        for (int t = 0; t < 5; t++) {
            for (int b : new int[] {MIN, -1, 0, 1, 2, 3, 4, MAX}) {
                RaceWatch x = Calls.added(Calls.row(0, 0, 0), Calls.row(t, 0, 0), Calls.row(t, 0, 0),
                        Calls.row(t, 12, 0, b), Calls.row(t, 0, 0));
                int number = t == 0 ? 3 : 2;
                CHECK.due("LOOP in " + t + " to " + b, Calls.start(x, false), b < 0 || b >= number ? ARGUMENT : "5");
            }
        }
        CHECK.due("LOOP first", Calls.start(Calls.added(Calls.row(0, 12, 0, 0), Calls.row(0, 0, 0)), false), ARGUMENT);
        CHECK.due("b of others", Calls.start(Calls.added(Calls.row(0, 11, 0, -9), Calls.row(0, 10, 0, 99)), false), "2");
        CHECK.due("a of LOOP", Calls.start(Calls.added(Calls.row(0, 11, 0), Calls.row(0, 12, -9, 0)), false), "2");
    }

    private static void startAfterBad() {
        RaceWatch x = Calls.added(Calls.row(1, 0, 0));
        CHECK.due("bad", Calls.start(x, true), ARGUMENT);
        CHECK.due("bad is not started", x.state(0), -1);
        CHECK.due("step of a bad one", Calls.step(x, 0), STATE);
        CHECK.due("bad may be added to", x.add(0, 6, 1, 0), 0);
        CHECK.due("and be started", Calls.start(x, false), "2");
        CHECK.due("thread 0 is running", x.state(0), 1);
        CHECK.due("the others are new", x.state(1), 0);
        RaceWatch loop = Calls.added(Calls.row(0, 0, 0), Calls.row(0, 12, 0, 1), Calls.row(0, 0, 0));
        CHECK.due("a bad LOOP stays bad", Calls.start(loop, false), ARGUMENT);
    }

    public static void main(String[] args) {
        newObject();
        addNumbers();
        addNames();
        addRefused();
        clearForgets();
        clearForgetsOrder();
        startCounts();
        startVets();
        startAfterBad();
        CHECK.end();
    }
}
