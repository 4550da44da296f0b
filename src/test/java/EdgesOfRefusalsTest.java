/**
 * "A call that is refused or throws changes nothing": for each call that can be so, a run with such calls
 * between its steps has to end as the same run without them.
 */
final class EdgesOfRefusalsTest extends Calls {
    /** A call that is refused or throws wherever it comes in the run; tells what it answered. */
    interface Refused {
        String call(RaceWatch x);
    }

    private static final int[][] PROGRAMS = {
        row(0, SET, 2), row(0, FORK, 1), row(0, FORK, 2), row(0, ACQUIRE, 0), row(0, WRITE, 5),
        row(0, RELEASE, 0), row(0, VWRITE, 1), row(0, JOIN, 1), row(0, READ, 6),
        row(1, READ, 5), row(1, ACQUIRE, 0), row(1, AWRITE, 0), row(1, RELEASE, 0),
        row(2, VREAD, 1), row(2, NEXT, 0), row(2, AWRITE, 0), row(2, WRITE, 6),
    };
    private static final int[] SCHEDULE = {0, 0, 0, 0, 0, 1, 0, 0, 1, 1, 2, 2, 2, 1, 0, 2, 0};

    private static final Refused NOTHING = x -> "";

    private static String behindRun(Check check, boolean coarse, Refused whileAdding, Refused whileRunning, String due) {
        RaceWatch x = new RaceWatch();
        for (int[] row : PROGRAMS) {
            check.due("while adding", whileAdding.call(x), whileAdding == NOTHING ? "" : due);
            addTo(x, row);
        }
        check.due("while adding", whileAdding.call(x), whileAdding == NOTHING ? "" : due);
        check.due("start", start(x, coarse), "" + PROGRAMS.length);
        for (int t : SCHEDULE) {
            check.due("while running", whileRunning.call(x), whileRunning == NOTHING ? "" : due);
            go(x, t);
        }
        check.due("while running", whileRunning.call(x), whileRunning == NOTHING ? "" : due);
        return lookAtAll(x);
    }

    private static void dueTheSame(Check check, Refused whileAdding, Refused whileRunning, String due) {
        for (int coarse = 0; coarse < 2; coarse++) {
            String plain = behindRun(check, coarse == 1, NOTHING, NOTHING, "");
            check.due("run with refused calls", behindRun(check, coarse == 1, whileAdding, whileRunning, due), plain);
        }
    }

    private static void addToNoThread(Check check) {
        Refused refused = x -> "" + x.add(5, READ, 0, 0) + x.add(-1, READ, 0, 0);
        dueTheSame(check, refused, refused, "-1-1");
    }

    private static void addNoOp(Check check) {
        Refused refused = x -> "" + x.add(0, 13, 0, 0) + x.add(1, -1, 0, 0);
        dueTheSame(check, refused, refused, "-1-1");
    }

    private static void addOfNothing(Check check) {
        Refused refused = x -> "" + x.add(0, READ, 8, 0) + x.add(1, ACQUIRE, 3, 0) + x.add(2, VWRITE, 2, 0) + x.add(3, FORK, 5, 0);
        dueTheSame(check, refused, refused, "-1-1-1-1");
    }

    private static void addWhenStarted(Check check) {
        dueTheSame(check, NOTHING, x -> "" + x.add(0, READ, 0, 0) + x.add(3, WRITE, 1, 0), "-1-1");
    }

    private static void addAThirteenth(Check check) {
        RaceWatch x = new RaceWatch();
        for (int n = 0; n < 12; n++) {
            addTo(x, row(0, WRITE, n % 8));
        }
        for (int n = 0; n < 20; n++) {
            check.due("refused", x.add(0, READ, 7, 0), NO);
        }
        check.due("start", start(x, false), "12");
        for (int n = 0; n < 12; n++) {
            go(x, 0);
            check.due("event " + n, x.event(n), 8 + 128 * (n % 8));
        }
        check.due("ended", x.state(0), 2 + 4 * 12);
    }

    private static void startTwice(Check check) {
        dueTheSame(check, NOTHING, x -> start(x, false) + start(x, true), STATE + STATE);
    }

    private static void startOfBad(Check check) {
        RaceWatch x = new RaceWatch();
        for (int[] row : PROGRAMS) {
            if (row[0] != 0) {
                addTo(x, row);
                check.due("thread 0 has none", start(x, true) + start(x, false), ARGUMENT + ARGUMENT);
            }
        }
        for (int[] row : PROGRAMS) {
            if (row[0] == 0) {
                addTo(x, row);
            }
        }
        check.due("start", start(x, false), "" + PROGRAMS.length);
        go(x, SCHEDULE);
        check.due("as if never refused", lookAtAll(x), behindRun(check, false, NOTHING, NOTHING, ""));
    }

    private static void stepOfNoThread(Check check) {
        Refused refused = x -> step(x, -1) + step(x, 5) + step(x, MAX);
        dueTheSame(check, refused, refused, INDEX + INDEX + INDEX);
    }

    private static void stepNotRunning(Check check) {
        dueTheSame(check, x -> step(x, 0) + step(x, 1), x -> step(x, 3) + step(x, 4), STATE + STATE);
    }

    private static void stepInfeasible(Check check) {
        int[][] tries = {row(3, RELEASE, 0), row(3, FORK, 1), row(3, FORK, 2), row(3, JOIN, 4)};
        for (int[] last : tries) {
            String[] looks = new String[2];
            for (int tried = 0; tried < 2; tried++) {
                RaceWatch x = added(row(0, FORK, 1), row(0, FORK, 2), row(0, FORK, 3), row(0, WRITE, 1),
                        row(1, ACQUIRE, 0), row(1, WRITE, 1), row(1, RELEASE, 0), row(2, AWRITE, 0), row(2, ACQUIRE, 1), row(2, VWRITE, 0));
                addTo(x, last);
                x.start(false);
                go(x, 0, 0, 0);
                for (int t : new int[] {1, 2, 1, 2, 1, 2, 0}) {
                    if (tried == 1) {
                        check.due("op " + last[1], step(x, 3), INFEASIBLE);
                    }
                    go(x, t);
                }
                looks[tried] = lookAtAll(x);
            }
            check.due("op " + last[1] + ", and all else", looks[1], looks[0]);
        }
    }

    /** A JOIN that is INFEASIBLE at first can be done later: then it must know no more than without the tries. */
    private static void stepFeasibleLater(Check check) {
        String[] looks = new String[2];
        for (int tried = 0; tried < 2; tried++) {
            RaceWatch x = started(false, row(0, FORK, 1), row(0, FORK, 2), row(0, WRITE, 0), row(0, WRITE, 0), row(0, WRITE, 0),
                    row(1, JOIN, 3), row(1, WRITE, 0), row(2, WRITE, 1), row(2, FORK, 3), row(2, WRITE, 1), row(3, READ, 2));
            go(x, 0, 0);
            for (int t : new int[] {0, 2, 0, 0, 2}) {
                if (tried == 1) {
                    check.due("JOIN of a new one", step(x, 1), INFEASIBLE);
                }
                go(x, t);
            }
            go(x, 2, 3, 1, 1);
            looks[tried] = lookAtAll(x);
        }
        check.due("the tries taught nothing", looks[1], looks[0]);
    }

    private static void stepThatWaits(Check check) {
        String[] looks = new String[2];
        for (int tried = 0; tried < 2; tried++) {
            RaceWatch x = started(false, row(0, FORK, 1), row(0, FORK, 2), row(0, ACQUIRE, 0), row(0, WRITE, 1), row(0, RELEASE, 0),
                    row(0, WRITE, 2), row(1, ACQUIRE, 0), row(1, READ, 1), row(1, WRITE, 2), row(2, JOIN, 1), row(2, READ, 2));
            go(x, 0, 0, 0);
            for (int n = 0; n < 2; n++) {
                if (tried == 1) {
                    check.due("ACQUIRE waits", step(x, 1), "0");
                    check.due("JOIN waits", step(x, 2), "0");
                }
                go(x, 0);
            }
            go(x, 0, 1, 1);
            if (tried == 1) {
                check.due("JOIN waits", step(x, 2), "0");
            }
            go(x, 1, 2, 2);
            looks[tried] = lookAtAll(x);
        }
        check.due("waiting taught nothing", looks[1], looks[0]);
    }

    private static void askingOutOfBounds(Check check) {
        Refused low = x -> "" + x.state(-1) + x.holder(-1) + x.event(-1) + x.race(-1) + x.partner(-1) + x.again(-1, true);
        Refused high = x -> "" + x.state(5) + x.holder(3) + x.event(200) + x.race(8) + x.partner(8) + x.again(201, true);
        for (Refused refused : new Refused[] {low, high}) {
            dueTheSame(check, refused, NOTHING, "-1".repeat(6));
            dueTheSame(check, NOTHING, refused, "-1".repeat(6));
        }
    }

    private static void askingBefore(Check check) {
        Refused refused = x -> "" + x.before(-1, 0) + x.before(0, 200) + x.before(MIN, MAX);
        dueTheSame(check, refused, refused, "false".repeat(3));
    }

    private static void fullTrace(Check check) {
        RaceWatch x = full(1, row(1, WRITE, 0), row(1, WRITE, 0), row(1, READ, 1));
        String was = look(x);
        for (int n = 0; n < 3; n++) {
            check.due("thread 1", step(x, 1), "0");
            check.due("no thread", step(x, 5), INDEX);
            check.due("a new thread", step(x, 2), STATE);
            check.due("start", start(x, true), STATE);
            check.due("add", x.add(4, READ, 0, 0), NO);
            check.due("again", x.again(201, true), NO);
        }
        check.due("nothing has changed", look(x), was);
    }

    public static void main(String[] args) {
        Sentences s = new Sentences();
        String sentence = "A call that is refused or throws changes nothing: ";
        s.holds(sentence + "add to no thread", EdgesOfRefusalsTest::addToNoThread);
        s.holds(sentence + "add of no op", EdgesOfRefusalsTest::addNoOp);
        s.holds(sentence + "add of what is not there", EdgesOfRefusalsTest::addOfNothing);
        s.holds(sentence + "add to a started watch", EdgesOfRefusalsTest::addWhenStarted);
        s.holds(sentence + "add to a full program", EdgesOfRefusalsTest::addAThirteenth);
        s.holds(sentence + "start of a started watch", EdgesOfRefusalsTest::startTwice);
        s.holds(sentence + "start of BAD programs", EdgesOfRefusalsTest::startOfBad);
        s.holds(sentence + "step of no thread", EdgesOfRefusalsTest::stepOfNoThread);
        s.holds(sentence + "step of a thread that is not running", EdgesOfRefusalsTest::stepNotRunning);
        s.holds(sentence + "step of an INFEASIBLE instruction", EdgesOfRefusalsTest::stepInfeasible);
        s.holds(sentence + "step of a JOIN that is INFEASIBLE at first", EdgesOfRefusalsTest::stepFeasibleLater);
        s.holds(sentence + "a step that waits", EdgesOfRefusalsTest::stepThatWaits);
        s.holds(sentence + "calls that ask for what is not there", EdgesOfRefusalsTest::askingOutOfBounds);
        s.holds(sentence + "before, of what is not there", EdgesOfRefusalsTest::askingBefore);
        s.holds(sentence + "any, when the trace is full", EdgesOfRefusalsTest::fullTrace);
        s.end();
    }
}
