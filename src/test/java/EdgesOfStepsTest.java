/** RUNNING and promises 5 to 9: a test of its own for each sentence that names a boundary case. */
final class EdgesOfStepsTest extends Calls {

    private static void firstStates(Check check) {
        RaceWatch x = started(false, row(0, READ, 0), row(1, READ, 0), row(4, READ, 0));
        check.due("thread 0", x.state(0), 1);
        for (int t = 1; t < 5; t++) {
            check.due("thread " + t, x.state(t), 0);
        }
    }

    private static void registerAtFirst(Check check) {
        RaceWatch x = started(false, row(0, NEXT, 0), row(0, FORK, 1), row(1, AREAD, 0), row(1, NEXT, 0));
        check.due("thread 0 begins with 0", x.state(0), 1);
        go(x, 0, 0);
        check.due("thread 1 does so too, whatever its forker has", x.state(1), 1);
        go(x, 1, 1);
        check.due("its register is its own", x.state(1), 2 + 8 + 64);
        check.due("and its forker's too", x.state(0), 2 + 8 + 64);
        check.due("0 & 3", x.event(1), 1 + 8 * AREAD + 128 * 4);
    }

    private static void endsBehindTheLast(Check check) {
        RaceWatch x = new RaceWatch();
        for (int n = 0; n < 12; n++) {
            addTo(x, row(0, READ, 0));
        }
        x.start(false);
        for (int n = 0; n < 12; n++) {
            check.due("running before number " + n, x.state(0), 1 + 4 * n);
            go(x, 0);
        }
        check.due("ended behind number 11", x.state(0), 2 + 4 * 12);
        for (int op = READ; op <= LOOP; op++) {
            RaceWatch y = op == RELEASE ? started(false, row(0, ACQUIRE, 1), row(0, op, 1))
                    : op == JOIN ? started(false, row(0, FORK, 1), row(0, op, 1))
                    : started(false, row(0, READ, 0), row(0, op, 1, 0));
            go(y, 0, 0);
            check.due("ended behind op " + op, y.state(0) & 63, 2 + 4 * 2);
        }
    }

    private static void loopAtTheEnd(Check check) {
        RaceWatch x = started(false, row(0, NEXT, 0), row(0, NEXT, 0), row(0, LOOP, 0, 1));
        go(x, 0, 0, 0);
        check.due("it goes back, so the thread is running", x.state(0), 1 + 4 + 64);
        RaceWatch y = started(false, row(0, NEXT, 0), row(0, LOOP, 0, 0));
        go(y, 0, 0);
        check.due("it does not, so the thread has ended", y.state(0), 2 + 8);
    }

    private static void withoutInstructions(Check check) {
        RaceWatch x = started(false, row(0, FORK, 4), row(0, JOIN, 4), row(0, FORK, 4));
        check.due("new at first", x.state(4), 0);
        dueUnchanged(check, "not running", x, 4, STATE);
        go(x, 0);
        check.due("ended as soon as forked", x.state(4), 2);
        dueUnchanged(check, "not running then", x, 4, STATE);
        check.due("JOIN need not wait", step(x, 0), "1");
        dueUnchanged(check, "it is not new", x, 0, INFEASIBLE);
    }

    private static void whichAreEvents(Check check) {
        RaceWatch x = started(false, row(0, SET, 1), row(0, READ, 1), row(0, NEXT, 0), row(0, FORK, 1), row(0, LOOP, 0, 0),
                row(1, AWRITE, 0), row(1, ACQUIRE, 2));
        int[] threads = {0, 0, 0, 0, 1, 1};
        int[] events = {0, 1, 1, 2, 3, 4};
        for (int n = 0; n < threads.length; n++) {
            go(x, threads[n]);
            check.due("events behind step " + n, x.events(), events[n]);
        }
        check.due("number 0", x.event(0), 128);
        check.due("number 1", x.event(1), 8 * FORK + 128);
        check.due("number 2", x.event(2), 1 + 8 * AWRITE + 128 * 4);
        check.due("number 3", x.event(3), 1 + 8 * ACQUIRE + 128 * 2);
    }

    private static void roomFor200(Check check) {
        RaceWatch x = started(false, row(0, SET, MAX), row(0, WRITE, 3), row(0, LOOP, 0, 1));
        go(x, 0);
        for (int n = 0; n < 199; n++) {
            go(x, 0, 0);
        }
        check.due("199", x.events(), 199);
        check.due("the 200th is done", step(x, 0), "1");
        check.due("200", x.events(), 200);
        check.due("number 199", x.event(199), 8 + 128 * 3);
        go(x, 0);
        dueUnchanged(check, "the 201st is not", x, 0, "0");
        check.due("no number 200", x.event(200), NO);
    }

    private static void acquireWaits(Check check) {
        RaceWatch x = started(false, row(0, FORK, 1), row(0, FORK, 2), row(0, ACQUIRE, 2), row(0, ACQUIRE, 2), row(0, RELEASE, 2), row(0, RELEASE, 2),
                row(1, ACQUIRE, 2), row(2, ACQUIRE, 1), row(2, ACQUIRE, 2));
        go(x, 0, 0, 0);
        dueUnchanged(check, "1 waits", x, 1, "0");
        check.due("another lock does not wait", step(x, 2), "1");
        dueUnchanged(check, "2 waits", x, 2, "0");
        check.due("its own holder does not wait", step(x, 0), "1");
        go(x, 0, 0);
        check.due("nobody holds it", step(x, 1), "1");
        dueUnchanged(check, "2 waits for 1", x, 2, "0");
    }

    private static void releasedAsOften(Check check) {
        RaceWatch x = started(false, row(0, FORK, 1), row(0, ACQUIRE, 0), row(0, ACQUIRE, 0), row(0, ACQUIRE, 0),
                row(0, RELEASE, 0), row(0, RELEASE, 0), row(0, RELEASE, 0), row(1, ACQUIRE, 0));
        go(x, 0);
        for (int n = 1; n <= 3; n++) {
            go(x, 0);
            check.due("held " + n + " times", x.holder(0), 8 * n);
            dueUnchanged(check, "1 waits", x, 1, "0");
        }
        for (int n = 2; n >= 1; n--) {
            go(x, 0);
            check.due("held " + n + " times", x.holder(0), 8 * n);
            dueUnchanged(check, "1 waits still", x, 1, "0");
        }
        go(x, 0);
        check.due("let go", x.holder(0), NO);
        check.due("1 takes it", step(x, 1), "1");
    }

    private static void joinWaits(Check check) {
        RaceWatch x = started(false, row(0, FORK, 3), row(0, JOIN, 3), row(3, NEXT, 0), row(3, READ, 0));
        go(x, 0);
        dueUnchanged(check, "none of two is done", x, 0, "0");
        go(x, 3);
        dueUnchanged(check, "one of two is done", x, 0, "0");
        go(x, 3);
        check.due("it has ended", step(x, 0), "1");
    }

    private static void forkMakesRunning(Check check) {
        RaceWatch x = started(false, row(0, FORK, 1), row(1, FORK, 4), row(2, READ, 0), row(4, READ, 0));
        dueUnchanged(check, "1 is new", x, 1, STATE);
        go(x, 0);
        check.due("1 is running", x.state(1), 1);
        dueUnchanged(check, "4 is new", x, 4, STATE);
        go(x, 1);
        check.due("4 is running", step(x, 4), "1");
        dueUnchanged(check, "2 is new still", x, 2, STATE);
    }

    private static void releaseInfeasible(Check check) {
        RaceWatch never = started(false, row(0, ACQUIRE, 0), row(0, RELEASE, 1));
        go(never, 0);
        dueUnchanged(check, "nobody ever held it", never, 0, INFEASIBLE);
        RaceWatch first = started(false, row(0, RELEASE, 0), row(0, READ, 0));
        dueUnchanged(check, "as the very first", first, 0, INFEASIBLE);
        RaceWatch often = started(false, row(0, ACQUIRE, 2), row(0, ACQUIRE, 2), row(0, RELEASE, 2), row(0, RELEASE, 2), row(0, RELEASE, 2));
        go(often, 0, 0, 0, 0);
        dueUnchanged(check, "once too often", often, 0, INFEASIBLE);
        RaceWatch others = started(false, row(0, FORK, 1), row(0, ACQUIRE, 1), row(1, RELEASE, 1));
        go(others, 0, 0);
        dueUnchanged(check, "another holds it", others, 1, INFEASIBLE);
        check.due("who holds it still", others.holder(1), 8);
    }

    private static void forkInfeasible(Check check) {
        RaceWatch x = started(false, row(0, FORK, 1), row(0, FORK, 2), row(0, FORK, 1), row(1, READ, 0), row(2, FORK, 1), row(2, READ, 0));
        go(x, 0, 0);
        dueUnchanged(check, "1 is running", x, 0, INFEASIBLE);
        dueUnchanged(check, "1 is running, though another forked it", x, 2, INFEASIBLE);
        go(x, 1);
        dueUnchanged(check, "1 has ended", x, 0, INFEASIBLE);
        dueUnchanged(check, "1 has ended, though another forked it", x, 2, INFEASIBLE);
    }

    private static void joinInfeasible(Check check) {
        RaceWatch x = started(false, row(0, FORK, 2), row(0, JOIN, 1), row(1, READ, 0), row(2, FORK, 1), row(2, JOIN, 1));
        go(x, 0);
        dueUnchanged(check, "1 is new", x, 0, INFEASIBLE);
        go(x, 2);
        dueUnchanged(check, "1 is running", x, 0, "0");
        go(x, 1);
        check.due("1 has ended", step(x, 0), "1");
        check.due("for each that joins it", step(x, 2), "1");
        RaceWatch empty = started(false, row(0, JOIN, 3), row(0, READ, 0));
        dueUnchanged(check, "new, and without instructions", empty, 0, INFEASIBLE);
    }

    private static void answersByOp(Check check) {
        RaceWatch x = started(false, row(0, FORK, 1), row(0, JOIN, 1), row(0, ACQUIRE, 0), row(0, RELEASE, 0), row(0, READ, 0), row(0, WRITE, 0),
                row(0, VREAD, 0), row(0, VWRITE, 0), row(0, AREAD, 0), row(0, AWRITE, 0));
        for (int n = 0; n < 10; n++) {
            check.due("number " + n + " is an event", step(x, 0), "1");
        }
        RaceWatch y = started(false, row(0, SET, 2), row(0, NEXT, 0), row(0, LOOP, 0, 1), row(0, READ, 0));
        for (int n = 0; n < 6; n++) {
            check.due("step " + n + " is none", step(y, 0), "2");
        }
    }

    private static void waitingDoesNothing(Check check) {
        RaceWatch x = started(false, row(0, FORK, 1), row(0, ACQUIRE, 0), row(0, JOIN, 1), row(1, ACQUIRE, 0), row(1, READ, 0));
        go(x, 0, 0);
        String was = lookAtAll(x);
        for (int n = 0; n < 5; n++) {
            check.due("ACQUIRE waits", step(x, 1), "0");
            check.due("JOIN waits", step(x, 0), "0");
        }
        check.due("nothing is done", lookAtAll(x), was);
    }

    private static void endedHolds(Check check) {
        RaceWatch x = started(false, row(0, FORK, 2), row(0, JOIN, 2), row(0, ACQUIRE, 1), row(2, ACQUIRE, 1), row(2, ACQUIRE, 1));
        go(x, 0, 2, 2);
        check.due("ended", x.state(2), 2 + 8);
        check.due("it holds it twice", x.holder(1), 2 + 16);
        go(x, 0);
        check.due("joined, it holds it still", x.holder(1), 2 + 16);
        dueUnchanged(check, "so another waits", x, 0, "0");
    }

    private static void stepOfNoThread(Check check) {
        for (int t : outside(5)) {
            dueUnchanged(check, "new", new RaceWatch(), t, INDEX);
            dueUnchanged(check, "started", started(false, row(0, READ, 0)), t, INDEX);
        }
        dueUnchanged(check, "full", full(0), 5, INDEX);
    }

    private static void stepWhenNew(Check check) {
        RaceWatch x = started(false, row(0, READ, 0), row(1, READ, 0), row(2, RELEASE, 0));
        for (int t = 1; t < 5; t++) {
            dueUnchanged(check, "thread " + t + " is new", x, t, STATE);
        }
    }

    private static void stepWhenEnded(Check check) {
        RaceWatch x = started(false, row(0, FORK, 1), row(0, NEXT, 0), row(1, READ, 0));
        go(x, 0, 0, 1);
        dueUnchanged(check, "thread 0 has ended", x, 0, STATE);
        dueUnchanged(check, "thread 1 has ended", x, 1, STATE);
        RaceWatch full = full(1, row(1, NEXT, 0));
        dueUnchanged(check, "ended, and the trace is full", full, 1, STATE);
    }

    private static void stepWhenNotStarted(Check check) {
        for (int t = 0; t < 5; t++) {
            dueUnchanged(check, "new, thread " + t, new RaceWatch(), t, STATE);
        }
        RaceWatch x = added(row(1, READ, 0));
        start(x, false);
        dueUnchanged(check, "bad", x, 0, STATE);
        addTo(x, row(0, READ, 0));
        dueUnchanged(check, "good, but not started", x, 0, STATE);
        x.start(false);
        go(x, 0);
        x.clear();
        dueUnchanged(check, "cleared", x, 0, STATE);
    }

    private static void fullForEvents(Check check) {
        for (int op = READ; op <= AWRITE; op++) {
            RaceWatch x = op == RELEASE ? full(1, row(1, ACQUIRE, 1), row(1, op, 1))
                    : op == JOIN ? full(1, row(1, FORK, 3), row(1, op, 3))
                    : op == FORK ? full(0, row(1, op, 3))
                    : full(0, row(1, op, 1));
            check.due("it is full", x.events(), 200);
            dueUnchanged(check, "op " + op + " of 1", x, 1, "0");
            dueUnchanged(check, "op " + op + " of 1, once more", x, 1, "0");
        }
    }

    private static void fullForOthers(Check check) {
        RaceWatch x = full(0, row(1, SET, 3), row(1, NEXT, 0), row(1, LOOP, 0, 1));
        for (int n = 0; n < 5; n++) {
            check.due("step " + n, step(x, 1), "2");
        }
        check.due("looped", x.state(1), 1 + 4 + 64 * 3);
        check.due("no event more", x.events(), 200);
    }

    private static void fullAndWaiting(Check check) {
        RaceWatch x = full(2, row(1, FORK, 2), row(1, ACQUIRE, 1), row(1, JOIN, 2), row(2, ACQUIRE, 1));
        dueUnchanged(check, "ACQUIRE", x, 2, "0");
        dueUnchanged(check, "JOIN", x, 1, "0");
    }

    private static void fullAndInfeasible(Check check) {
        dueUnchanged(check, "RELEASE", full(0, row(1, RELEASE, 0)), 1, INFEASIBLE);
        dueUnchanged(check, "FORK", full(1, row(1, FORK, 2), row(1, FORK, 2)), 1, INFEASIBLE);
        dueUnchanged(check, "JOIN", full(0, row(1, JOIN, 2)), 1, INFEASIBLE);
    }

    private static void stateNumbers(Check check) {
        RaceWatch x = started(false, row(0, SET, MAX), row(0, SET, MIN), row(0, SET, -1));
        check.due("at first", x.state(0), 1);
        go(x, 0);
        check.due("MAX does not wrap around", x.state(0), 137438953408L + 1 + 4);
        go(x, 0);
        check.due("MIN does not wrap around", x.state(0), -137438953472L + 1 + 8);
        go(x, 0);
        check.due("-1", x.state(0), -64 + 2 + 12);
    }

    private static void stateOfNoThread(Check check) {
        RaceWatch x = started(false, row(0, READ, 0));
        for (int t : outside(5)) {
            check.due("new, thread " + t, new RaceWatch().state(t), NO);
            check.due("started, thread " + t, x.state(t), NO);
        }
    }

    private static void stateNotStarted(Check check) {
        RaceWatch x = new RaceWatch();
        for (int t = 0; t < 5; t++) {
            check.due("new", x.state(t), NO);
            addTo(x, row(4 - t, READ, 0));
            check.due("added", x.state(t), NO);
            check.due("started", start(x, false), t == 4 ? "5" : ARGUMENT);
            check.due("bad or started", x.state(t), t == 4 ? 0 : NO);
        }
        x.clear();
        for (int t = 0; t < 5; t++) {
            check.due("cleared", x.state(t), NO);
        }
    }

    private static void holderNumbers(Check check) {
        RaceWatch x = started(false, row(0, FORK, 4), row(0, ACQUIRE, 0), row(4, ACQUIRE, 2), row(4, ACQUIRE, 2));
        go(x, 0, 0, 4);
        check.due("0, once", x.holder(0), 8);
        check.due("4, once", x.holder(2), 4 + 8);
        go(x, 4);
        check.due("4, twice", x.holder(2), 4 + 16);
        RaceWatch often = started(false, row(0, SET, MAX), row(0, ACQUIRE, 1), row(0, LOOP, 0, 1));
        for (int n = 0; n < 400; n++) {
            go(often, 0);
        }
        check.due("as often as there is room for", often.holder(1), 8 * 200);
    }

    private static void holderOfFree(Check check) {
        RaceWatch x = added(row(0, ACQUIRE, 1), row(0, RELEASE, 1));
        for (int l = 0; l < 3; l++) {
            check.due("not started", x.holder(l), NO);
        }
        x.start(false);
        for (int n = 0; n < 2; n++) {
            check.due("behind " + n, x.holder(1), n == 0 ? NO : 8);
            check.due("another one, behind " + n, x.holder(0) + x.holder(2), 2 * NO);
            go(x, 0);
        }
        check.due("let go", x.holder(1), NO);
    }

    private static void holderOfNoLock(Check check) {
        RaceWatch x = started(false, row(0, ACQUIRE, 0), row(0, ACQUIRE, 1), row(0, ACQUIRE, 2));
        go(x, 0, 0, 0);
        for (int l : outside(3)) {
            check.due("lock " + l, x.holder(l), NO);
        }
    }

    private static void eventsCount(Check check) {
        RaceWatch x = added(row(0, FORK, 1), row(0, NEXT, 0), row(0, JOIN, 1), row(1, READ, 0), row(1, RELEASE, 0));
        check.due("not started", x.events(), 0);
        x.start(false);
        check.due("started", x.events(), 0);
        go(x, 0);
        check.due("one", x.events(), 1);
        go(x, 0);
        check.due("NEXT is none", x.events(), 1);
        step(x, 0);
        check.due("waiting is none", x.events(), 1);
        go(x, 1);
        step(x, 1);
        check.due("an infeasible one is none", x.events(), 2);
        check.due("the most there can be", full(0).events(), 200);
    }

    private static void eventNumbers(Check check) {
        RaceWatch x = started(true, row(0, FORK, 4), row(4, READ, 7), row(4, WRITE, 7), row(4, ACQUIRE, 2), row(4, RELEASE, 2),
                row(4, VREAD, 1), row(4, VWRITE, 1), row(4, FORK, 3), row(4, JOIN, 3), row(4, SET, 3), row(4, AREAD, 0), row(4, AWRITE, 0));
        go(x, 0, 4, 4, 4, 4, 4, 4, 4, 4, 4, 4, 4);
        int[] of = {7, 7, 2, 2, 1, 1, 3, 3, 7, 7};
        check.due("event 0", x.event(0), 8 * FORK + 128 * 4);
        for (int op = READ; op <= AWRITE; op++) {
            check.due("event " + (op + 1), x.event(op + 1), 4 + 8 * op + 128 * of[op]);
        }
    }

    private static void eventAsIfNotCoarse(Check check) {
        for (int variable = 0; variable < 8; variable++) {
            RaceWatch x = started(true, row(0, READ, variable), row(0, SET, variable), row(0, AWRITE, 0));
            go(x, 0, 0, 0);
            check.due("READ of " + variable, x.event(0), 128 * variable);
            check.due("AWRITE with " + variable, x.event(1), 8 * AWRITE + 128 * (4 + variable % 4));
        }
    }

    private static void noSuchEvent(Check check) {
        RaceWatch x = started(false, row(0, READ, 0), row(0, READ, 0));
        check.due("event 0 before it is done", x.event(0), NO);
        go(x, 0);
        check.due("event 0", x.event(0), 0);
        for (int k : new int[] {-1, 1, 2, 199, 200, 201, 256, MIN, MAX}) {
            check.due("event " + k, x.event(k), NO);
        }
        RaceWatch full = full(0);
        check.due("the last there can be", full.event(199), 0);
        for (int k : new int[] {-1, 200, 201, 256, MIN, MAX}) {
            check.due("full, event " + k, full.event(k), NO);
        }
    }

    private static void running(Sentences s) {
        s.holds("Thread 0 is RUNNING at first, the others are NEW", EdgesOfStepsTest::firstStates);
        s.holds("Each thread has a register, 0 when it begins", EdgesOfStepsTest::registerAtFirst);
        s.holds("is ENDED when it is behind its last instruction", EdgesOfStepsTest::endsBehindTheLast);
        s.holds("is ENDED when it is behind its last instruction, a LOOP", EdgesOfStepsTest::loopAtTheEnd);
        s.holds("(one without instructions as soon as it is forked)", EdgesOfStepsTest::withoutInstructions);
        s.holds("READ to AWRITE are EVENTS, numbered from 0 in the order in which they are done", EdgesOfStepsTest::whichAreEvents);
        s.holds("the trace has room for 200", EdgesOfStepsTest::roomFor200);
        s.holds("ACQUIRE waits while another thread holds the lock", EdgesOfStepsTest::acquireWaits);
        s.holds("a thread may hold a lock several times, and lets it go when it has RELEASED it as often", EdgesOfStepsTest::releasedAsOften);
        s.holds("JOIN waits until the thread is ended", EdgesOfStepsTest::joinWaits);
        s.holds("FORK makes a new thread running", EdgesOfStepsTest::forkMakesRunning);
        s.holds("INFEASIBLE are a RELEASE of a lock that the thread does not hold", EdgesOfStepsTest::releaseInfeasible);
        s.holds("INFEASIBLE are .. a FORK of a thread that is not new", EdgesOfStepsTest::forkInfeasible);
        s.holds("INFEASIBLE are .. a JOIN of one that is new", EdgesOfStepsTest::joinInfeasible);
    }

    private static void promises(Sentences s) {
        s.holds("5: 1 when an event was done; 2 when another instruction was", EdgesOfStepsTest::answersByOp);
        s.holds("5: 0 when it waits (nothing is done)", EdgesOfStepsTest::waitingDoesNothing);
        s.holds("5: (A thread that has ended holds the locks that it held.)", EdgesOfStepsTest::endedHolds);
        s.holds("5: IndexOutOfBoundsException when there is no t", EdgesOfStepsTest::stepOfNoThread);
        s.holds("5: IllegalStateException when it is not running: new", EdgesOfStepsTest::stepWhenNew);
        s.holds("5: IllegalStateException when it is not running: ended", EdgesOfStepsTest::stepWhenEnded);
        s.holds("5: IllegalStateException when .. (.. the watch was not started)", EdgesOfStepsTest::stepWhenNotStarted);
        s.holds("5: UnsupportedOperationException when the instruction is INFEASIBLE, in a full trace too", EdgesOfStepsTest::fullAndInfeasible);
        s.holds("5: 0 too when it would be an event and the trace is full", EdgesOfStepsTest::fullForEvents);
        s.holds("5: .. when it would be an event ..: others are done", EdgesOfStepsTest::fullForOthers);
        s.holds("5: 0 when it waits, and the trace is full", EdgesOfStepsTest::fullAndWaiting);
        s.holds("6: plus 64 times its register, as a long", EdgesOfStepsTest::stateNumbers);
        s.holds("6: -1 when there is no t", EdgesOfStepsTest::stateOfNoThread);
        s.holds("6: -1 when .. the watch was not started", EdgesOfStepsTest::stateNotStarted);
        s.holds("7: Who holds lock l, plus 8 times how often", EdgesOfStepsTest::holderNumbers);
        s.holds("7: -1 when nobody does", EdgesOfStepsTest::holderOfFree);
        s.holds("7: -1 when .. there is no such lock", EdgesOfStepsTest::holderOfNoLock);
        s.holds("8: How many events there were", EdgesOfStepsTest::eventsCount);
        s.holds("9: its thread, plus 8 times its op, plus 128 times what it is of", EdgesOfStepsTest::eventNumbers);
        s.holds("9: (a place counts as its variable, as if not coarse)", EdgesOfStepsTest::eventAsIfNotCoarse);
        s.holds("9: -1 when there is none", EdgesOfStepsTest::noSuchEvent);
    }

    public static void main(String[] args) {
        Sentences s = new Sentences();
        running(s);
        promises(s);
        s.end();
    }
}
