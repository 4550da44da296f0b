/** PROGRAMS, VETTING and promises 1 to 4: a test of its own for each sentence that names a boundary case. */
final class EdgesOfProgramsTest extends Calls {

    private static void usedFor512Calls(Check check) {
        RaceWatch x = added(row(0, SET, 2), row(0, NEXT, 0), row(0, LOOP, 0, 1));
        x.start(false);
        go(x, 0);
        for (int call = 6; call < 512; call++) {
            check.due("call " + call, step(x, 0), "2");
        }
        check.due("call 512", x.state(0), 1 + 4 + 64 * 2);
    }

    private static void threadsHaveTwelve(Check check) {
        RaceWatch x = new RaceWatch();
        for (int n = 0; n < 12; n++) {
            for (int t = 0; t < 5; t++) {
                check.due("number " + n + " of thread " + t, x.add(t, READ, 0, 0), n);
            }
        }
        for (int t = 0; t < 5; t++) {
            check.due("a thirteenth of thread " + t, x.add(t, READ, 0, 0), NO);
        }
        check.due("all", start(x, false), "60");
    }

    private static void numberedAsAdded(Check check) {
        RaceWatch x = new RaceWatch();
        for (int n = 0; n < 12; n++) {
            addTo(x, row(0, n % 2, n * 3 % 8));
        }
        x.start(false);
        for (int n = 0; n < 12; n++) {
            check.due("next", x.state(0), 1 + 4 * n);
            go(x, 0);
            check.due("event " + n, x.event(n), 8 * (n % 2) + 128 * (n * 3 % 8));
        }
    }

    private static void dueNames(Check check, int op, int bound) {
        for (int a = 0; a < bound; a++) {
            check.due("op " + op + " of " + a, new RaceWatch().add(1, op, a, 0), 0);
        }
        for (int a : outside(bound)) {
            RaceWatch x = new RaceWatch();
            check.due("op " + op + " of " + a, x.add(1, op, a, 0), NO);
            check.due("the next is the first", x.add(1, op, 0, 0), 0);
        }
    }

    private static void variables(Check check) {
        dueNames(check, READ, 8);
        dueNames(check, WRITE, 8);
        for (int a = 0; a < 8; a++) {
            RaceWatch x = started(false, row(0, READ, a), row(0, WRITE, a));
            go(x, 0, 0);
            check.due("READ of " + a, x.event(0), 128 * a);
            check.due("WRITE of " + a, x.event(1), 8 + 128 * a);
        }
    }

    private static void locks(Check check) {
        dueNames(check, ACQUIRE, 3);
        dueNames(check, RELEASE, 3);
        for (int a = 0; a < 3; a++) {
            RaceWatch x = started(false, row(0, ACQUIRE, a), row(0, RELEASE, a));
            go(x, 0);
            for (int l = 0; l < 3; l++) {
                check.due("holder of " + l, x.holder(l), l == a ? 8 : NO);
            }
            go(x, 0);
            check.due("released", x.holder(a), NO);
        }
    }

    private static void volatiles(Check check) {
        dueNames(check, VREAD, 2);
        dueNames(check, VWRITE, 2);
        for (int written = 0; written < 2; written++) {
            for (int read = 0; read < 2; read++) {
                RaceWatch x = started(false, row(0, FORK, 1), row(0, VWRITE, written), row(1, VREAD, read));
                go(x, 0, 0, 1);
                check.due("VWRITE " + written + ", VREAD " + read, x.before(1, 2), written == read);
            }
        }
    }

    private static void threads(Check check) {
        dueNames(check, FORK, 5);
        dueNames(check, JOIN, 5);
        for (int a = 1; a < 5; a++) {
            RaceWatch x = started(false, row(0, FORK, a), row(0, JOIN, a), row(a, READ, 0));
            go(x, 0);
            for (int t = 1; t < 5; t++) {
                check.due("state of " + t, x.state(t), t == a ? 1 : 0);
            }
            go(x, a, 0);
            check.due("joined", x.event(2), 8 * JOIN + 128 * a);
        }
    }

    private static void arrayVariables(Check check) {
        int[] registers = {0, 1, 2, 3, 4, 5, 6, 7, 8, 255, 256, -1, -2, -3, -4, -5, MAX, MAX - 1, MIN, MIN + 1};
        for (int register : registers) {
            int variable = 4 + Math.floorMod(register, 4);
            RaceWatch x = started(false, row(0, SET, register), row(0, AREAD, 0), row(0, AWRITE, 0));
            go(x, 0, 0, 0);
            check.due("AREAD with " + register, x.event(0), 8 * AREAD + 128 * variable);
            check.due("AWRITE with " + register, x.event(1), 8 * AWRITE + 128 * variable);
        }
    }

    private static void set(Check check) {
        for (int a : new int[] {0, 1, -1, MAX, MIN}) {
            RaceWatch x = started(false, row(0, SET, 77), row(0, SET, a), row(0, READ, 0));
            go(x, 0, 0);
            check.due("SET " + a, x.state(0), 1 + 8 + 64L * a);
        }
    }

    private static void next(Check check) {
        for (int a : new int[] {0, 1, -1, -2, MAX, MIN}) {
            RaceWatch x = started(false, row(0, SET, a), row(0, NEXT, 0), row(0, READ, 0));
            go(x, 0, 0);
            check.due("NEXT of " + a, x.state(0), 1 + 8 + 64 * (a + 1L));
        }
    }

    private static void loop(Check check) {
        for (int a : new int[] {3, 2, 1, 0, -1, MAX, MIN + 1, MIN}) {
            RaceWatch x = started(false, row(0, SET, a), row(0, LOOP, 0, 0), row(0, READ, 0));
            go(x, 0, 0);
            long number = a >= 2 ? 0 : 2;
            check.due("LOOP with " + a, x.state(0), 1 + 4 * number + 64 * (a - 1L));
        }
    }

    private static String lookBehindRun(int any) {
        RaceWatch x = started(false,
                row(0, SET, 3, any), row(0, FORK, 1, any), row(0, READ, 2, any), row(0, WRITE, 3, any),
                row(0, ACQUIRE, 1, any), row(0, VREAD, 1, any), row(0, VWRITE, 0, any), row(0, AREAD, any, any),
                row(0, AWRITE, any, any), row(0, NEXT, any, any), row(0, RELEASE, 1, any), row(0, LOOP, any, 7),
                row(1, FORK, 2, any), row(1, JOIN, 2, any), row(1, WRITE, 3, any));
        go(x, 0, 0, 0, 0, 0, 0, 0, 0, 0, 0, 0, 0, 0, 1, 1, 1);
        return lookAtAll(x);
    }

    private static void notNamed(Check check) {
        String due = lookBehindRun(0);
        for (int any : new int[] {-1, 1, 5, 8, 12, MAX, MIN}) {
            check.due("with " + any, lookBehindRun(any), due);
        }
    }

    private static void loopTargets(Check check) {
        for (int t = 0; t < 5; t++) {
            for (int number = 0; number < 12; number++) {
                for (int b : new int[] {MIN, -1, 0, number - 1, number, number + 1, 11, 12, 256, MAX}) {
                    RaceWatch x = t == 0 ? new RaceWatch() : added(row(0, READ, 0));
                    for (int n = 0; n < 12; n++) {
                        addTo(x, n == number ? row(t, LOOP, 0, b) : row(t, READ, 0));
                    }
                    String good = t == 0 ? "12" : "13";
                    check.due("LOOP " + number + " of thread " + t + " to " + b, start(x, false),
                            b >= 0 && b <= number - 1 ? good : ARGUMENT);
                }
            }
        }
    }

    private static void noInstructionThere(Check check) {
        for (int b = 1; b < 13; b++) {
            RaceWatch x = added(row(0, READ, 0), row(0, LOOP, 0, b));
            check.due("LOOP to " + b + " of two", start(x, false), ARGUMENT);
        }
        check.due("a LOOP alone, to itself", start(added(row(0, LOOP, 0, 0)), false), ARGUMENT);
        RaceWatch later = added(row(0, READ, 0), row(0, LOOP, 0, 2));
        addTo(later, row(0, READ, 0), row(0, READ, 0));
        check.due("it stands there later, but behind the LOOP", start(later, false), ARGUMENT);
    }

    private static void forkAndJoinTargets(Check check) {
        for (int t = 0; t < 5; t++) {
            for (int of = 0; of < 5; of++) {
                for (int number = 0; number < 12; number += 11) {
                    for (int op = FORK; op <= JOIN; op++) {
                        RaceWatch x = t == 0 ? new RaceWatch() : added(row(0, READ, 0));
                        for (int n = 0; n < 12; n++) {
                            addTo(x, n == number ? row(t, op, of) : row(t, READ, 0));
                        }
                        String good = t == 0 ? "12" : "13";
                        check.due("op " + op + " of " + of + " as number " + number + " of thread " + t,
                                start(x, false), of == t || of == 0 ? ARGUMENT : good);
                    }
                }
            }
        }
    }

    private static void threadZeroHasNone(Check check) {
        RaceWatch x = new RaceWatch();
        check.due("no program at all", start(x, false), ARGUMENT);
        for (int t = 1; t < 5; t++) {
            for (int n = 0; n < 12; n++) {
                addTo(x, row(t, READ, 0));
            }
            check.due("programs up to thread " + t, start(x, false), ARGUMENT);
        }
        addTo(x, row(0, NEXT, 0));
        check.due("one instruction is enough", start(x, false), "49");
    }

    private static void newIsEmpty(Check check) {
        check.due("start", start(new RaceWatch(), false), ARGUMENT);
        check.due("start coarse", start(new RaceWatch(), true), ARGUMENT);
        RaceWatch x = new RaceWatch();
        for (int t = 0; t < 5; t++) {
            check.due("the first of thread " + t, x.add(t, READ, 0, 0), 0);
        }
        check.due("five in all", start(x, false), "5");
    }

    private static void dueNothing(Check check, RaceWatch x) {
        for (int t = 0; t < 5; t++) {
            check.due("step " + t, step(x, t), STATE);
            check.due("state " + t, x.state(t), NO);
        }
        for (int l = 0; l < 3; l++) {
            check.due("holder " + l, x.holder(l), NO);
        }
        for (int place = 0; place < 8; place++) {
            check.due("race " + place, x.race(place), NO);
            check.due("partner " + place, x.partner(place), NO);
        }
        check.due("events", x.events(), 0);
        check.due("event 0", x.event(0), NO);
        check.due("before", x.before(0, 0) || x.before(0, 1) || x.before(1, 0), false);
        check.due("races", x.races(), 0);
        for (int coarse = 0; coarse < 2; coarse++) {
            check.due("again of 0", x.again(0, coarse == 1), 0);
            check.due("again of 1", x.again(1, coarse == 1), NO);
        }
    }

    private static void nothingRunning(Check check) {
        dueNothing(check, new RaceWatch());
        dueNothing(check, added(row(0, READ, 0), row(1, READ, 0)));
    }

    private static void addAnyNumber(Check check) {
        for (int any : new int[] {-1, 13, 256, MAX, MIN}) {
            for (int op = READ; op <= JOIN; op++) {
                check.due("b of op " + op, new RaceWatch().add(3, op, 1, any), 0);
            }
            for (int op = AREAD; op <= LOOP; op++) {
                check.due("a and b of op " + op, new RaceWatch().add(3, op, any, any), 0);
            }
        }
    }

    private static void loopLookedAtByStart(Check check) {
        for (int b : new int[] {MIN, -1, 0, 1, 11, 12, MAX}) {
            RaceWatch x = new RaceWatch();
            check.due("add a LOOP to " + b, x.add(0, LOOP, 0, b), 0);
            check.due("start with it", start(x, false), ARGUMENT);
        }
    }

    private static void addToNoThread(Check check) {
        for (int t : outside(5)) {
            RaceWatch x = new RaceWatch();
            check.due("add to " + t, x.add(t, READ, 0, 0), NO);
            check.due("nothing was added", start(x, false), ARGUMENT);
            addTo(x, row(0, READ, 0));
            check.due("but this one", start(x, false), "1");
        }
    }

    private static void addAThirteenth(Check check) {
        for (int t = 0; t < 5; t++) {
            RaceWatch x = t == 0 ? new RaceWatch() : added(row(0, READ, 0));
            for (int n = 0; n < 12; n++) {
                check.due("number", x.add(t, NEXT, 0, 0), n);
            }
            check.due("the thirteenth", x.add(t, NEXT, 0, 0), NO);
            check.due("one more", x.add(t, READ, 0, 0), NO);
            check.due("to another thread", x.add((t + 1) % 5, READ, 0, 0), t == 4 ? 1 : 0);
            check.due("all but the refused", start(x, false), t == 0 ? "13" : "14");
        }
    }

    private static void addWhenStarted(Check check) {
        RaceWatch x = added(row(0, READ, 0));
        x.start(false);
        for (int t = 0; t < 5; t++) {
            check.due("started, thread " + t, x.add(t, READ, 0, 0), NO);
        }
        go(x, 0);
        check.due("it was the last", x.state(0), 2 + 4);
        check.due("all ended", x.add(0, READ, 0, 0), NO);
        x.clear();
        check.due("cleared", x.add(0, READ, 0, 0), 0);
        RaceWatch bad = added(row(1, READ, 0));
        start(bad, false);
        check.due("bad, so not started", bad.add(1, READ, 0, 0), 1);
    }

    private static void addNoOp(Check check) {
        for (int op : outside(13)) {
            RaceWatch x = new RaceWatch();
            check.due("op " + op, x.add(0, op, 0, 0), NO);
            check.due("the next is the first", x.add(0, READ, 0, 0), 0);
        }
        for (int op = 0; op < 13; op++) {
            check.due("op " + op, new RaceWatch().add(0, op, 0, 0), 0);
        }
    }

    private static void addOfNothingThere(Check check) {
        int[] bounds = {8, 8, 3, 3, 2, 2, 5, 5};
        for (int op = READ; op <= JOIN; op++) {
            RaceWatch x = new RaceWatch();
            for (int a : outside(bounds[op])) {
                check.due("op " + op + " of " + a, x.add(0, op, a, 0), NO);
            }
            check.due("op " + op + " of the last", x.add(0, op, bounds[op] - 1, 0), 0);
            check.due("op " + op + " of 0", x.add(0, op, 0, 0), 1);
        }
    }

    private static void clearsPrograms(Check check) {
        RaceWatch x = new RaceWatch();
        for (int n = 0; n < 60; n++) {
            addTo(x, row(n / 12, NEXT, 0));
        }
        x.clear();
        check.due("no program", start(x, false), ARGUMENT);
        for (int t = 0; t < 5; t++) {
            check.due("the first of thread " + t, x.add(t, READ, 0, 0), 0);
        }
        check.due("only the new ones", start(x, false), "5");
        go(x, 0);
        check.due("it has one instruction", x.state(0), 2 + 4);
    }

    private static void clearsBadPrograms(Check check) {
        RaceWatch x = added(row(0, LOOP, 0, 0), row(1, FORK, 1), row(2, JOIN, 0));
        check.due("bad", start(x, false), ARGUMENT);
        x.clear();
        addTo(x, row(0, READ, 0));
        check.due("no longer bad", start(x, false), "1");
    }

    private static void clearsThreads(Check check) {
        RaceWatch x = started(false, row(0, SET, 9), row(0, FORK, 1), row(0, FORK, 2), row(0, ACQUIRE, 2), row(1, NEXT, 0), row(1, ACQUIRE, 1));
        go(x, 0, 0, 0, 0, 1);
        x.clear();
        dueNothing(check, x);
        addTo(x, row(0, FORK, 1), row(0, FORK, 2), row(0, ACQUIRE, 2), row(1, READ, 0));
        x.start(false);
        check.due("thread 0 from its first on, with register 0", x.state(0), 1);
        for (int t = 1; t < 5; t++) {
            check.due("thread " + t + " is new", x.state(t), 0);
        }
        go(x, 0, 0);
        check.due("thread 1 begins with register 0", x.state(1), 1);
        go(x, 0);
        check.due("the lock was free", x.holder(2), 8);
    }

    private static void clearsTrace(Check check) {
        RaceWatch x = started(false, row(0, READ, 1), row(0, WRITE, 2));
        go(x, 0, 0);
        x.clear();
        check.due("events", x.events(), 0);
        check.due("event 0", x.event(0), NO);
        check.due("before", x.before(0, 1), false);
        check.due("again", x.again(1, false), NO);
        addTo(x, row(0, WRITE, 7));
        x.start(false);
        check.due("started, events", x.events(), 0);
        go(x, 0);
        check.due("numbered from 0 again", x.event(0), 8 + 128 * 7);
        check.due("one event", x.events(), 1);
        check.due("no event 1", x.event(1), NO);
    }

    private static void fillByTwelve(RaceWatch x) {
        addTo(x, row(0, SET, MAX));
        for (int n = 1; n < 11; n++) {
            addTo(x, row(0, WRITE, 0));
        }
        addTo(x, row(0, LOOP, 0, 1));
        x.start(false);
        for (int n = 0; n < 1 + 20 * 11 - 1; n++) {
            go(x, 0);
        }
    }

    private static void clearsFullTrace(Check check) {
        RaceWatch x = new RaceWatch();
        fillByTwelve(x);
        check.due("full", x.events(), 200);
        x.clear();
        check.due("empty", x.events(), 0);
        fillByTwelve(x);
        check.due("room for 200 again", x.events(), 200);
    }

    private static void clearsRaces(Check check) {
        RaceWatch x = started(false, row(0, FORK, 1), row(0, WRITE, 3), row(0, WRITE, 6), row(1, WRITE, 3), row(1, READ, 6));
        go(x, 0, 0, 0, 1, 1);
        check.due("two races", x.races(), 2);
        x.clear();
        dueNothing(check, x);
        addTo(x, row(0, FORK, 1), row(0, READ, 3), row(1, READ, 3), row(1, WRITE, 6));
        x.start(false);
        go(x, 0, 0, 1, 1);
        check.due("accesses from before do not race", x.races(), 0);
        check.due("nor again", x.again(4, false) + x.again(4, true), 0);
    }

    private static void clearsOrder(Check check) {
        RaceWatch x = started(false, row(0, FORK, 1), row(0, WRITE, 0), row(0, WRITE, 0), row(0, ACQUIRE, 0), row(0, RELEASE, 0),
                row(0, VWRITE, 0), row(1, VREAD, 0), row(1, ACQUIRE, 0), row(1, RELEASE, 0));
        go(x, 0, 0, 0, 0, 0, 0, 1, 1, 1);
        x.clear();
        addTo(x, row(0, FORK, 1), row(0, WRITE, 0), row(1, VREAD, 0), row(1, ACQUIRE, 0), row(1, WRITE, 0));
        x.start(false);
        go(x, 0, 0, 1, 1, 1);
        check.due("nothing orders them now", x.before(1, 2) || x.before(1, 3) || x.before(1, 4), false);
        check.due("so they race", x.race(0), 4);
    }

    private static void clearsCoarse(Check check) {
        RaceWatch x = started(true, row(0, READ, 0));
        for (int coarse = 0; coarse < 2; coarse++) {
            x.clear();
            addTo(x, row(0, FORK, 1), row(0, WRITE, 7), row(1, WRITE, 7));
            x.start(coarse == 1);
            go(x, 0, 0, 1);
            check.due("race at 7", x.race(7), coarse == 1 ? NO : 2);
            check.due("race at 4", x.race(4), coarse == 1 ? 2 : NO);
        }
    }

    private static void clearsEmpty(Check check) {
        RaceWatch x = new RaceWatch();
        x.clear();
        dueNothing(check, x);
        x.clear();
        x.clear();
        dueNothing(check, x);
        addTo(x, row(0, READ, 0));
        check.due("start", start(x, false), "1");
    }

    private static void startCounts(Check check) {
        RaceWatch x = new RaceWatch();
        for (int n = 0; n < 60; n++) {
            check.due("added", x.add(n % 5, NEXT, 0, 0), n / 5);
            x.add(n % 5, 13, 0, 0);
        }
        check.due("as many as there can be", start(x, true), "60");
        check.due("as few as there can be", start(added(row(0, NEXT, 0)), true), "1");
    }

    private static void startCoarseOrNot(Check check) {
        for (int coarse = 0; coarse < 2; coarse++) {
            RaceWatch x = started(coarse == 1, row(0, FORK, 1), row(0, WRITE, 5), row(1, WRITE, 6));
            go(x, 0, 0, 1);
            check.due("race at 4", x.race(4), coarse == 1 ? 2 : NO);
            check.due("races", x.races(), coarse);
        }
    }

    private static void badAddedTo(Check check) {
        RaceWatch x = added(row(1, READ, 0), row(2, READ, 0));
        check.due("thread 0 has none", start(x, true), ARGUMENT);
        check.due("and again", start(x, false), ARGUMENT);
        check.due("added to", x.add(0, FORK, 1, 0), 0);
        check.due("to another one too", x.add(2, READ, 0, 0), 1);
        check.due("started", start(x, false), "4");
        go(x, 0);
        check.due("it runs", x.state(1), 1);
    }

    private static void startedTillClear(Check check) {
        RaceWatch x = started(false, row(0, READ, 0));
        check.due("started", start(x, false), STATE);
        go(x, 0);
        check.due("all has ended", start(x, false), STATE);
        step(x, 0);
        check.due("still", start(x, true), STATE);
        x.clear();
        check.due("cleared, no program", start(x, false), ARGUMENT);
        addTo(x, row(0, READ, 0));
        check.due("started anew", start(x, false), "1");
        check.due("and is so", start(x, false), STATE);
        check.due("full, too", start(full(0), false), STATE);
    }

    private static void startTwice(Check check) {
        for (int first = 0; first < 2; first++) {
            RaceWatch x = started(first == 1, row(0, FORK, 1), row(0, WRITE, 5), row(1, WRITE, 5));
            go(x, 0, 0);
            String was = lookAtAll(x);
            check.due("fine", start(x, false), STATE);
            check.due("coarse", start(x, true), STATE);
            check.due("as it was", lookAtAll(x), was);
            go(x, 1);
            check.due("as coarse as it was", x.race(first == 1 ? 4 : 5), 2);
        }
    }

    private static void startOfBad(Check check) {
        RaceWatch x = added(row(0, READ, 0), row(0, LOOP, 0, 1), row(3, READ, 0));
        check.due("bad", start(x, false), ARGUMENT);
        check.due("bad, coarse", start(x, true), ARGUMENT);
        dueNothing(check, x);
        check.due("nothing was added or lost", x.add(0, READ, 0, 0) + 10 * x.add(3, READ, 0, 0), 2 + 10);
        check.due("bad still", start(x, false), ARGUMENT);
    }

    public static void main(String[] args) {
        Sentences s = new Sentences();
        s.holds("An object is used for at most 512 calls after it has been made", EdgesOfProgramsTest::usedFor512Calls);
        s.holds("Threads 0 .. 4 have each a program of at most 12 INSTRUCTIONS", EdgesOfProgramsTest::threadsHaveTwelve);
        s.holds("numbered from 0 in the order in which they were added", EdgesOfProgramsTest::numberedAsAdded);
        s.holds("0 READ, 1 WRITE of variable a (0 .. 7)", EdgesOfProgramsTest::variables);
        s.holds("2 ACQUIRE, 3 RELEASE of lock a (0 .. 2)", EdgesOfProgramsTest::locks);
        s.holds("4 VREAD, 5 VWRITE of volatile a (0 .. 1)", EdgesOfProgramsTest::volatiles);
        s.holds("6 FORK, 7 JOIN of thread a (0 .. 4)", EdgesOfProgramsTest::threads);
        s.holds("8 AREAD, 9 AWRITE of variable 4 + (register & 3)", EdgesOfProgramsTest::arrayVariables);
        s.holds("10 SET: the register becomes a", EdgesOfProgramsTest::set);
        s.holds("11 NEXT: the register grows by 1", EdgesOfProgramsTest::next);
        s.holds("12 LOOP: the register falls by 1; if it is above 0 then, b is the next instruction", EdgesOfProgramsTest::loop);
        s.holds("(What is not named means nothing.)", EdgesOfProgramsTest::notNamed);
        s.holds("BAD when some LOOP's b is not 0 .. its own number less 1", EdgesOfProgramsTest::loopTargets);
        s.holds("BAD when .. no instruction stands there", EdgesOfProgramsTest::noInstructionThere);
        s.holds("BAD when .. some FORK or JOIN is of its own thread or of thread 0", EdgesOfProgramsTest::forkAndJoinTargets);
        s.holds("BAD when .. thread 0 has no instruction", EdgesOfProgramsTest::threadZeroHasNone);
        s.holds("1: Empty programs", EdgesOfProgramsTest::newIsEmpty);
        s.holds("1: nothing running", EdgesOfProgramsTest::nothingRunning);
        s.holds("2: what is not named for its op may be any number", EdgesOfProgramsTest::addAnyNumber);
        s.holds("2: a LOOP's b is looked at by start()", EdgesOfProgramsTest::loopLookedAtByStart);
        s.holds("2: -1 (refused) when there is no t", EdgesOfProgramsTest::addToNoThread);
        s.holds("2: -1 (refused) when .. it has 12", EdgesOfProgramsTest::addAThirteenth);
        s.holds("2: -1 (refused) when .. the watch was started", EdgesOfProgramsTest::addWhenStarted);
        s.holds("2: -1 (refused) when .. op is not 0 .. 12", EdgesOfProgramsTest::addNoOp);
        s.holds("2: -1 (refused) when .. what a names is not there", EdgesOfProgramsTest::addOfNothingThere);
        s.holds("3: Stops and forgets everything: programs", EdgesOfProgramsTest::clearsPrograms);
        s.holds("3: .. programs, bad ones", EdgesOfProgramsTest::clearsBadPrograms);
        s.holds("3: .. threads", EdgesOfProgramsTest::clearsThreads);
        s.holds("3: .. trace", EdgesOfProgramsTest::clearsTrace);
        s.holds("3: .. trace, a full one", EdgesOfProgramsTest::clearsFullTrace);
        s.holds("3: .. races", EdgesOfProgramsTest::clearsRaces);
        s.holds("3: .. everything: what happened before what", EdgesOfProgramsTest::clearsOrder);
        s.holds("3: .. everything: coarse or not", EdgesOfProgramsTest::clearsCoarse);
        s.holds("3: .. everything, where there is nothing", EdgesOfProgramsTest::clearsEmpty);
        s.holds("4: answers how many instructions there are", EdgesOfProgramsTest::startCounts);
        s.holds("4: Starts the programs, coarse or not", EdgesOfProgramsTest::startCoarseOrNot);
        s.holds("4: BAD ones may be added to, and started then", EdgesOfProgramsTest::badAddedTo);
        s.holds("4: one that was started is so till clear()", EdgesOfProgramsTest::startedTillClear);
        s.holds("4: IllegalStateException when it was started already", EdgesOfProgramsTest::startTwice);
        s.holds("4: IllegalArgumentException when they are BAD", EdgesOfProgramsTest::startOfBad);
        s.end();
    }
}
