/** HAPPENS BEFORE, places, races and promises 10 to 14: a test of its own for each sentence that names a boundary case. */
final class EdgesOfRacesTest extends Calls {

    /** Thread 0 forks 1, 2 and 3 (events 0, 1, 2) before it does its rows. */
    private static RaceWatch forked(boolean coarse, int[]... rows) {
        RaceWatch x = added(row(0, FORK, 1), row(0, FORK, 2), row(0, FORK, 3));
        addTo(x, rows);
        x.start(coarse);
        go(x, 0, 0, 0);
        return x;
    }

    private static void dueRace(Check check, String what, RaceWatch x, int place, int e, int partner) {
        check.due(what + ": race at " + place, x.race(place), e);
        check.due(what + ": partner at " + place, x.partner(place), partner);
    }

    private static void ofOneThread(Check check) {
        RaceWatch x = forked(false, row(0, READ, 0), row(0, WRITE, 1), row(1, READ, 2), row(1, READ, 3));
        go(x, 0, 1, 0, 1);
        check.due("thread 0", x.before(3, 5), true);
        check.due("thread 1", x.before(4, 6), true);
        check.due("not the later before the earlier", x.before(5, 3) || x.before(6, 4), false);
        check.due("not of two threads", x.before(3, 4) || x.before(4, 3) || x.before(3, 6) || x.before(4, 5), false);
    }

    private static void releaseBeforeAcquire(Check check) {
        RaceWatch x = forked(false, row(1, ACQUIRE, 1), row(1, RELEASE, 1), row(2, ACQUIRE, 1), row(2, RELEASE, 1),
                row(3, ACQUIRE, 1), row(3, RELEASE, 1));
        go(x, 1, 1, 2, 2, 3, 3);
        check.due("the next one", x.before(4, 5), true);
        check.due("each later one", x.before(4, 7) && x.before(6, 7), true);
        check.due("not back", x.before(5, 4) || x.before(7, 4), false);
        RaceWatch other = forked(false, row(1, ACQUIRE, 1), row(1, RELEASE, 1), row(2, ACQUIRE, 2), row(3, ACQUIRE, 0));
        go(other, 1, 1, 2, 3);
        check.due("not of another lock", other.before(4, 5) || other.before(4, 6), false);
        RaceWatch earlier = forked(false, row(1, ACQUIRE, 1), row(1, RELEASE, 1), row(2, ACQUIRE, 1), row(2, RELEASE, 1));
        go(earlier, 2, 2, 1, 1);
        check.due("not an earlier one", earlier.before(6, 3) || earlier.before(5, 3), false);
        check.due("but that before this", earlier.before(4, 5), true);
    }

    /** Thread 1 goes on behind its RELEASE: a taking again by thread 2 must not learn of that. */
    private static void heldAlready(Check check) {
        RaceWatch x = forked(false, row(1, ACQUIRE, 0), row(1, RELEASE, 0), row(1, WRITE, 0), row(1, ACQUIRE, 1), row(1, RELEASE, 1),
                row(2, ACQUIRE, 0), row(2, ACQUIRE, 0), row(2, RELEASE, 0), row(2, RELEASE, 0));
        go(x, 1, 1, 2, 1, 1, 1, 2, 2, 2);
        check.due("the taking learns", x.before(4, 5), true);
        check.due("taking again does not", x.before(6, 9) || x.before(8, 9), false);
        check.due("nor does any RELEASE", x.before(6, 10) || x.before(6, 11), false);
        RaceWatch y = forked(false, row(1, ACQUIRE, 0), row(1, ACQUIRE, 0), row(1, RELEASE, 0), row(1, WRITE, 0), row(1, RELEASE, 0),
                row(1, WRITE, 1), row(2, ACQUIRE, 0));
        go(y, 1, 1, 1, 1, 1, 1, 2);
        check.due("all up to the letting go is before", y.before(5, 9) && y.before(6, 9) && y.before(7, 9), true);
        check.due("what comes behind it is not", y.before(8, 9), false);
    }

    private static void vwriteBeforeVread(Check check) {
        RaceWatch x = forked(false, row(1, VWRITE, 0), row(1, VREAD, 0), row(2, VWRITE, 0), row(3, VREAD, 0), row(0, VREAD, 0));
        go(x, 1, 2, 3, 0, 1);
        check.due("each VWRITE before each later VREAD", x.before(3, 5) && x.before(4, 5) && x.before(3, 6) && x.before(4, 6), true);
        check.due("another's VWRITE too", x.before(4, 7), true);
        check.due("no VWRITE before a VWRITE", x.before(3, 4) || x.before(4, 3), false);
        check.due("no VREAD before a VREAD", x.before(5, 6) || x.before(6, 7), false);
        RaceWatch y = forked(false, row(1, VREAD, 0), row(1, VREAD, 0), row(2, VWRITE, 0), row(2, VWRITE, 1), row(3, VREAD, 1));
        go(y, 1, 2, 1, 2, 3);
        check.due("no earlier VREAD", y.before(4, 3) || y.before(3, 4), false);
        check.due("a later one", y.before(4, 5), true);
        check.due("not of the other volatile", y.before(6, 5) || y.before(5, 7), false);
        check.due("of the second volatile", y.before(6, 7), true);
    }

    private static void forkBefore(Check check) {
        RaceWatch x = started(false, row(0, READ, 0), row(0, FORK, 1), row(0, READ, 1), row(0, FORK, 2), row(1, READ, 2), row(1, READ, 3),
                row(2, FORK, 3), row(2, READ, 4));
        go(x, 0, 0, 0, 0, 1, 1, 2, 2);
        check.due("before all events of the thread", x.before(1, 4) && x.before(1, 5), true);
        check.due("what is before it, too", x.before(0, 4), true);
        check.due("what is behind it, not", x.before(2, 4) || x.before(2, 5) || x.before(3, 4), false);
        check.due("the other FORK", x.before(3, 6) && x.before(2, 7), true);
        check.due("not of another thread", x.before(1, 7) && !x.before(4, 7), true);
    }

    private static void forkBeforeJoin(Check check) {
        RaceWatch x = forked(false, row(1, FORK, 4), row(2, JOIN, 4), row(3, JOIN, 4));
        go(x, 1, 2, 3);
        check.due("of one without instructions", x.before(3, 4), true);
        check.due("before each JOIN", x.before(3, 5), true);
        check.due("no JOIN before a JOIN", x.before(4, 5), false);
        RaceWatch y = forked(false, row(1, FORK, 4), row(1, READ, 0), row(2, JOIN, 4), row(4, NEXT, 0));
        go(y, 1, 4, 1, 2);
        check.due("of one without events", y.before(3, 5), true);
        check.due("but not what its forker did then", y.before(4, 5), false);
    }

    private static void eventsBeforeJoin(Check check) {
        RaceWatch x = forked(false, row(1, READ, 0), row(1, READ, 1), row(2, JOIN, 1), row(3, JOIN, 1), row(0, READ, 2), row(0, JOIN, 1));
        go(x, 1, 1, 2, 0, 3, 0);
        for (int join : new int[] {5, 7, 8}) {
            check.due("all events, before JOIN " + join, x.before(3, join) && x.before(4, join), true);
            check.due("not back", x.before(join, 3) || x.before(join, 4), false);
        }
        check.due("no JOIN before a JOIN", x.before(5, 7) || x.before(5, 8) || x.before(7, 8), false);
        check.due("nothing of others", x.before(6, 7), false);
    }

    private static void throughAThird(Check check) {
        RaceWatch x = forked(false, row(1, WRITE, 0), row(1, ACQUIRE, 0), row(1, RELEASE, 0), row(1, WRITE, 1),
                row(2, ACQUIRE, 0), row(2, VWRITE, 1), row(3, VREAD, 1), row(3, FORK, 4), row(4, READ, 0), row(0, JOIN, 4), row(0, READ, 0));
        go(x, 1, 1, 1, 1, 2, 2, 3, 3, 4, 0, 0);
        for (int k = 7; k <= 13; k++) {
            check.due("the first of all before " + k, x.before(3, k), true);
            check.due("what came behind the RELEASE not before " + k, x.before(6, k), false);
        }
        check.due("so there is no race", x.races(), 0);
    }

    private static void placesOfAccesses(Check check) {
        for (int first = 0; first < 8; first++) {
            for (int second = 0; second < 8; second++) {
                RaceWatch x = forked(false, row(1, WRITE, first), row(2, READ, second));
                go(x, 1, 2);
                check.due("WRITE of " + first + ", READ of " + second, x.races(), first == second ? 1 : 0);
                check.due("at its variable", x.race(second), first == second ? 4 : NO);
            }
        }
    }

    private static void placesOfArrays(Check check) {
        for (int register = -2; register <= 5; register++) {
            for (int variable = 0; variable < 8; variable++) {
                RaceWatch x = forked(false, row(1, SET, register), row(1, AWRITE, 0), row(2, READ, variable));
                go(x, 1, 1, 2);
                boolean same = variable == 4 + Math.floorMod(register, 4);
                check.due("AWRITE with " + register + ", READ of " + variable, x.race(variable), same ? 4 : NO);
                check.due("no other place", x.races(), same ? 1 : 0);
            }
        }
    }

    private static void coarsePlaces(Check check) {
        for (int first = 0; first < 8; first++) {
            for (int second = 0; second < 8; second++) {
                RaceWatch x = forked(true, row(1, WRITE, first), row(2, READ, second));
                go(x, 1, 2);
                boolean same = first == second || first >= 4 && second >= 4;
                check.due("WRITE of " + first + ", READ of " + second, x.races(), same ? 1 : 0);
                check.due("its place", x.race(Math.min(second, 4)), same ? 4 : NO);
                check.due("no place behind 4", x.race(5) + x.race(6) + x.race(7), 3 * NO);
            }
        }
    }

    private static void coarseArrays(Check check) {
        for (int first = 0; first < 4; first++) {
            for (int second = 0; second < 4; second++) {
                RaceWatch x = forked(true, row(1, SET, first), row(1, AWRITE, 0), row(2, SET, second), row(2, AREAD, 0), row(3, READ, 3));
                go(x, 1, 1, 2, 2, 3);
                dueRace(check, "AWRITE with " + first + ", AREAD with " + second, x, 4, 4, 3);
                check.due("no other place", x.races(), 1);
            }
        }
    }

    private static void readsAndWrites(Check check) {
        int[] ops = {READ, WRITE, AREAD, AWRITE};
        for (int first : ops) {
            for (int second : ops) {
                RaceWatch x = forked(false, row(1, first, 4), row(2, second, 4));
                go(x, 1, 2);
                boolean race = first == WRITE || first == AWRITE || second == WRITE || second == AWRITE;
                dueRace(check, "ops " + first + ", " + second, x, 4, race ? 4 : NO, race ? 3 : NO);
            }
        }
    }

    private static void earliestAccess(Check check) {
        RaceWatch x = forked(false, row(1, WRITE, 6), row(2, READ, 6), row(2, WRITE, 6), row(3, WRITE, 6));
        go(x, 1);
        dueRace(check, "one access", x, 6, NO, NO);
        go(x, 2);
        dueRace(check, "told at once", x, 6, 4, 3);
        go(x, 2, 3);
        dueRace(check, "later ones do not change it", x, 6, 4, 3);
    }

    private static void byAnotherThread(Check check) {
        RaceWatch x = forked(false, row(1, WRITE, 2), row(1, READ, 2), row(1, WRITE, 2));
        go(x, 1, 1, 1);
        dueRace(check, "all by one thread", x, 2, NO, NO);
    }

    private static void oneAWrite(Check check) {
        RaceWatch x = forked(false, row(0, READ, 2), row(1, READ, 2), row(2, READ, 2), row(3, READ, 2), row(3, WRITE, 2));
        go(x, 0, 1, 2, 3);
        dueRace(check, "all are reads", x, 2, NO, NO);
        go(x, 3);
        dueRace(check, "a write, last", x, 2, 7, 5);
    }

    private static void notHappensBefore(Check check) {
        RaceWatch x = started(false, row(0, WRITE, 1), row(0, FORK, 1), row(0, JOIN, 1), row(0, WRITE, 1), row(1, WRITE, 1), row(1, READ, 1));
        go(x, 0, 0, 1, 1, 0, 0);
        check.due("FORK and JOIN order all", x.races(), 0);
        RaceWatch locked = forked(false, row(1, ACQUIRE, 0), row(1, WRITE, 1), row(1, RELEASE, 0), row(1, WRITE, 2),
                row(2, ACQUIRE, 0), row(2, WRITE, 1), row(2, WRITE, 2));
        go(locked, 1, 1, 1, 1, 2, 2, 2);
        dueRace(check, "ordered by the lock", locked, 1, NO, NO);
        dueRace(check, "behind the RELEASE", locked, 2, 9, 6);
    }

    /** Thread 2 is ordered behind thread 1's write but not behind what thread 3 read before it. */
    private static void anEarlierAccess(Check check) {
        RaceWatch x = forked(false, row(1, VREAD, 0), row(1, WRITE, 0), row(1, VWRITE, 1), row(2, VREAD, 1), row(2, WRITE, 0),
                row(3, READ, 0), row(3, VWRITE, 0), row(3, READ, 0));
        go(x, 3, 3, 1, 1, 1, 2, 2);
        dueRace(check, "all ordered", x, 0, NO, NO);
        go(x, 3);
        dueRace(check, "with the latest write", x, 0, 10, 9);
    }

    private static void partnerIsTheWrite(Check check) {
        RaceWatch x = forked(false, row(1, WRITE, 0), row(1, VWRITE, 0), row(1, READ, 0), row(2, VREAD, 0), row(2, READ, 0), row(3, WRITE, 0));
        go(x, 1, 1, 1, 2, 2, 3);
        dueRace(check, "though reads came later", x, 0, 8, 3);
        RaceWatch y = forked(false, row(1, WRITE, 0), row(1, WRITE, 0), row(1, WRITE, 0), row(2, READ, 0));
        go(y, 1, 1, 1, 2);
        dueRace(check, "the latest write", y, 0, 6, 5);
    }

    private static void partnerIsARead(Check check) {
        RaceWatch none = forked(false, row(1, READ, 0), row(2, READ, 0), row(1, READ, 0), row(3, WRITE, 0));
        go(none, 1, 2, 1, 3);
        dueRace(check, "there is no write", none, 0, 6, 5);
        RaceWatch own = forked(false, row(1, WRITE, 0), row(1, VWRITE, 0), row(1, WRITE, 0), row(2, VREAD, 0), row(2, READ, 0));
        go(own, 1, 1, 2, 2, 1);
        dueRace(check, "the latest write is by the thread itself", own, 0, 7, 6);
        RaceWatch ordered = started(false, row(0, WRITE, 0), row(0, FORK, 1), row(0, FORK, 2), row(1, READ, 0), row(2, WRITE, 0));
        go(ordered, 0, 0, 0, 1, 2);
        dueRace(check, "the latest write happens before", ordered, 0, 4, 3);
    }

    private static void partnerByOthers(Check check) {
        RaceWatch x = forked(false, row(1, READ, 0), row(2, READ, 0), row(2, WRITE, 0));
        go(x, 1, 2, 2);
        dueRace(check, "not its own read, though that came later", x, 0, 5, 3);
        RaceWatch y = forked(false, row(1, READ, 0), row(2, READ, 0), row(2, VWRITE, 1), row(3, VREAD, 1), row(3, WRITE, 0));
        go(y, 1, 2, 2, 3, 3);
        dueRace(check, "not the later read, as that happens before", y, 0, 7, 3);
    }

    /** The last read of thread 1 may be ordered while thread 2's earlier one is not, and so on for each thread. */
    private static void partnerLatestOfAll(Check check) {
        int[][] orders = {{1, 2, 3}, {1, 3, 2}, {2, 1, 3}, {2, 3, 1}, {3, 1, 2}, {3, 2, 1}};
        for (int[] order : orders) {
            RaceWatch x = forked(false, row(0, WRITE, 4), row(1, READ, 4), row(2, READ, 4), row(3, READ, 4));
            go(x, order);
            go(x, 0);
            dueRace(check, "the latest read is by " + order[2], x, 4, 6, 5);
        }
    }

    private static void beforeItself(Check check) {
        RaceWatch x = forked(false, row(0, READ, 0), row(1, READ, 0));
        go(x, 0, 1);
        for (int k = 0; k < 5; k++) {
            check.due("event " + k, x.before(k, k), false);
        }
        RaceWatch full = full(0);
        check.due("the last of all", full.before(199, 199), false);
        check.due("the first before the last", full.before(0, 199) && full.before(198, 199), true);
        check.due("not back", full.before(199, 0) || full.before(199, 198), false);
    }

    private static void beforeNotThere(Check check) {
        RaceWatch x = started(false, row(0, READ, 0), row(0, READ, 0), row(0, READ, 0));
        go(x, 0, 0);
        for (int k : new int[] {-1, 2, 3, 199, 200, 256, MIN, MAX}) {
            for (int there = 0; there < 2; there++) {
                check.due("before(" + k + ", " + there + ")", x.before(k, there), false);
                check.due("before(" + there + ", " + k + ")", x.before(there, k), false);
            }
            check.due("both " + k, x.before(k, k), false);
            check.due("no event at all", new RaceWatch().before(k, 0) || new RaceWatch().before(0, k), false);
        }
        check.due("none is there", x.before(-2, -1) || x.before(-1, 2) || x.before(2, 3) || x.before(MIN, MAX), false);
        RaceWatch full = full(0);
        check.due("full", full.before(199, 200) || full.before(-1, 0) || full.before(0, 200) || full.before(MIN, 199), false);
    }

    private static RaceWatch racingAtAll(boolean coarse) {
        RaceWatch x = added(row(0, FORK, 1));
        for (int place = 0; place < 8; place++) {
            addTo(x, row(0, WRITE, place), row(1, READ, place));
        }
        x.start(coarse);
        go(x, 0, 0, 0, 0, 0, 0, 0, 0, 0);
        return x;
    }

    private static void raceAtEachPlace(Check check) {
        RaceWatch x = racingAtAll(false);
        for (int place = 0; place < 8; place++) {
            check.due("not yet at " + place, x.race(place), NO);
            go(x, 1);
            check.due("at " + place, x.race(place), 9 + place);
        }
        RaceWatch y = racingAtAll(true);
        go(y, 1, 1, 1, 1, 1, 1, 1, 1);
        for (int place = 0; place < 8; place++) {
            check.due("coarse, at " + place, y.race(place), place <= 4 ? 9 + place : NO);
        }
    }

    private static void raceAtNoPlace(Check check) {
        RaceWatch x = racingAtAll(false);
        go(x, 1, 1, 1, 1, 1, 1, 1, 1);
        for (int place : outside(8)) {
            check.due("race at " + place, x.race(place), NO);
            check.due("new, race at " + place, new RaceWatch().race(place), NO);
        }
        for (int place = 0; place < 8; place++) {
            check.due("new, race at " + place, new RaceWatch().race(place), NO);
        }
    }

    private static void partnerAtEachPlace(Check check) {
        RaceWatch x = racingAtAll(false);
        for (int place = 0; place < 8; place++) {
            check.due("not yet at " + place, x.partner(place), NO);
            go(x, 1);
            check.due("at " + place, x.partner(place), 1 + place);
        }
        RaceWatch y = racingAtAll(true);
        go(y, 1, 1, 1, 1, 1);
        for (int place = 0; place < 8; place++) {
            check.due("coarse, at " + place, y.partner(place), place < 4 ? 1 + place : place == 4 ? 8 : NO);
        }
    }

    private static void partnerAtNoPlace(Check check) {
        RaceWatch x = racingAtAll(false);
        go(x, 1, 1, 1, 1, 1, 1, 1, 1);
        for (int place : outside(8)) {
            check.due("partner at " + place, x.partner(place), NO);
            check.due("new, partner at " + place, new RaceWatch().partner(place), NO);
        }
        for (int place = 0; place < 8; place++) {
            check.due("new, partner at " + place, new RaceWatch().partner(place), NO);
        }
    }

    private static void racesFromNoneToAll(Check check) {
        for (int coarse = 0; coarse < 2; coarse++) {
            RaceWatch x = racingAtAll(coarse == 1);
            for (int place = 0; place < 8; place++) {
                check.due("before " + place, x.races(), coarse == 1 ? Math.min(place, 5) : place);
                go(x, 1);
            }
            check.due("at all places", x.races(), coarse == 1 ? 5 : 8);
        }
    }

    private static void racesInAFullTrace(Check check) {
        RaceWatch x = full(1, row(1, WRITE, 0), row(1, WRITE, 0));
        check.due("the race came early", x.race(0), 2);
        check.due("its partner", x.partner(0), 1);
        check.due("one", x.races(), 1);
        step(x, 1);
        check.due("what does not happen does not race", x.race(0), 2);
        RaceWatch late = started(false, row(0, FORK, 1), row(0, SET, MAX), row(0, READ, 5), row(0, READ, 5), row(0, LOOP, 0, 2), row(1, WRITE, 5));
        go(late, 0, 0);
        for (int n = 0; n < 99; n++) {
            go(late, 0, 0, 0);
        }
        check.due("199 events", late.events(), 199);
        go(late, 1);
        dueRace(check, "the last event of all", late, 5, 199, 198);
        check.due("again of 199", late.again(199, false), 0);
        check.due("again of 200", late.again(200, false), 32);
        check.due("again of 201", late.again(201, false), NO);
    }

    private static void againOfFirst(Check check) {
        RaceWatch x = racingAtAll(false);
        go(x, 1, 1, 1, 1, 1, 1, 1, 1);
        for (int k = 0; k <= 17; k++) {
            int places = (1 << Math.max(0, k - 9)) - 1;
            check.due("fine, of " + k, x.again(k, false), places);
            check.due("coarse, of " + k, x.again(k, true), places & 31);
        }
    }

    private static void againCoarseOrNot(Check check) {
        for (int coarse = 0; coarse < 2; coarse++) {
            RaceWatch x = forked(coarse == 1, row(1, WRITE, 5), row(2, READ, 7), row(3, WRITE, 7), row(3, WRITE, 2), row(1, WRITE, 2));
            go(x, 1, 2, 3, 3, 1);
            int[] fine = {0, 0, 0, 0, 0, 0, 128, 128, 132};
            int[] rough = {0, 0, 0, 0, 0, 16, 16, 16, 20};
            for (int k = 0; k <= 8; k++) {
                check.due("fine, of " + k, x.again(k, false), fine[k]);
                check.due("coarse, of " + k, x.again(k, true), rough[k]);
            }
        }
    }

    private static void againStays(Check check) {
        for (int coarse = 0; coarse < 2; coarse++) {
            RaceWatch x = forked(coarse == 1, row(1, WRITE, 5), row(2, WRITE, 6), row(3, WRITE, 5), row(0, WRITE, 6));
            go(x, 1, 2, 3);
            String was = lookAtAll(x);
            for (int k = -1; k <= 7; k++) {
                x.again(k, false);
                x.again(k, true);
            }
            check.due("what this one told stays", lookAtAll(x), was);
            go(x, 0);
            dueRace(check, "and so does what it goes on with", x, 6, coarse == 1 ? NO : 6, coarse == 1 ? NO : 4);
            check.due("races", x.races(), coarse == 1 ? 1 : 2);
        }
    }

    private static void againOfNoNumber(Check check) {
        RaceWatch x = racingAtAll(false);
        go(x, 1, 1);
        for (int k : new int[] {-1, 12, 13, 200, 201, 256, MIN, MAX}) {
            check.due("fine, of " + k, x.again(k, false), NO);
            check.due("coarse, of " + k, x.again(k, true), NO);
        }
        check.due("of all", x.again(11, false), 3);
        for (int coarse = 0; coarse < 2; coarse++) {
            check.due("of no event", new RaceWatch().again(0, coarse == 1), 0);
            check.due("of one too many", new RaceWatch().again(1, coarse == 1), NO);
            check.due("of one too few", new RaceWatch().again(-1, coarse == 1), NO);
        }
    }

    private static void happensBefore(Sentences s) {
        s.holds("of two events of one thread the earlier happens before the later one", EdgesOfRacesTest::ofOneThread);
        s.holds("a RELEASE that lets a lock go, before each later ACQUIRE of the lock that takes it", EdgesOfRacesTest::releaseBeforeAcquire);
        s.holds("(not one of a thread that holds it already)", EdgesOfRacesTest::heldAlready);
        s.holds("a VWRITE before each later VREAD of the same volatile", EdgesOfRacesTest::vwriteBeforeVread);
        s.holds("a FORK before all events of the thread", EdgesOfRacesTest::forkBefore);
        s.holds("a FORK .. before each JOIN of it", EdgesOfRacesTest::forkBeforeJoin);
        s.holds("all events of a thread before each JOIN of it", EdgesOfRacesTest::eventsBeforeJoin);
        s.holds("if one happens before another one and that before a third one ..", EdgesOfRacesTest::throughAThird);
    }

    private static void racesAndPartners(Sentences s) {
        s.holds("THE PLACE .. of READ, WRITE the variable a", EdgesOfRacesTest::placesOfAccesses);
        s.holds("THE PLACE .. of AREAD, AWRITE its variable", EdgesOfRacesTest::placesOfArrays);
        s.holds("when the watch is COARSE, always 4", EdgesOfRacesTest::coarseArrays);
        s.holds("(so are READ and WRITE of 5, 6, 7 then)", EdgesOfRacesTest::coarsePlaces);
        s.holds("READ and AREAD are reads, the others writes", EdgesOfRacesTest::readsAndWrites);
        s.holds("A RACE at a place: the earliest access e", EdgesOfRacesTest::earliestAccess);
        s.holds("A RACE .. by another thread", EdgesOfRacesTest::byAnotherThread);
        s.holds("A RACE .. one of both at least a write", EdgesOfRacesTest::oneAWrite);
        s.holds("A RACE .. that does not happen before e", EdgesOfRacesTest::notHappensBefore);
        s.holds("A RACE .. for which there is an earlier access", EdgesOfRacesTest::anEarlierAccess);
        s.holds("PARTNER: if the latest write .. does not happen before e, that write", EdgesOfRacesTest::partnerIsTheWrite);
        s.holds("PARTNER: else the latest of the earlier reads there", EdgesOfRacesTest::partnerIsARead);
        s.holds("PARTNER: .. by other threads, that do not happen before e", EdgesOfRacesTest::partnerByOthers);
        s.holds("PARTNER: .. the latest of the earlier reads, by any thread", EdgesOfRacesTest::partnerLatestOfAll);
    }

    private static void promises(Sentences s) {
        s.holds("10: (not before itself)", EdgesOfRacesTest::beforeItself);
        s.holds("10: False too when one is not there", EdgesOfRacesTest::beforeNotThere);
        s.holds("11: The event at which the race at a place (0 .. 7) came", EdgesOfRacesTest::raceAtEachPlace);
        s.holds("11: -1 when there is none", EdgesOfRacesTest::raceAtNoPlace);
        s.holds("12: The partner of the race at a place, an event", EdgesOfRacesTest::partnerAtEachPlace);
        s.holds("12: -1 when there is none", EdgesOfRacesTest::partnerAtNoPlace);
        s.holds("13: At how many places (0 .. 7) there is a race", EdgesOfRacesTest::racesFromNoneToAll);
        s.holds("11 to 14, in a trace that is or gets full", EdgesOfRacesTest::racesInAFullTrace);
        s.holds("14: The first k events of the trace", EdgesOfRacesTest::againOfFirst);
        s.holds("14: by a new watch, coarse or not", EdgesOfRacesTest::againCoarseOrNot);
        s.holds("14: (what this one told stays)", EdgesOfRacesTest::againStays);
        s.holds("14: -1 when k is not 0 .. the number of events", EdgesOfRacesTest::againOfNoNumber);
    }

    public static void main(String[] args) {
        Sentences s = new Sentences();
        happensBefore(s);
        racesAndPartners(s);
        promises(s);
        s.end();
    }
}
