/** Promises 10 to 14: before, race, partner, races, again. */
final class RaceTest {
    private static final int MIN = Integer.MIN_VALUE;
    private static final int MAX = Integer.MAX_VALUE;
    private static final Check CHECK = new Check();

    private static void dueRace(String what, RaceWatch x, int place, int e, int partner) {
        CHECK.due(what + ": race at " + place, x.race(place), e);
        CHECK.due(what + ": partner at " + place, x.partner(place), partner);
    }

    private static void beforeEdges() {
        RaceWatch x = Calls.started(false, Calls.row(0, 0, 0), Calls.row(0, 1, 1), Calls.row(0, 0, 2));
        Calls.go(x, 0, 0, 0);
        CHECK.due("earlier of a thread", x.before(0, 1) && x.before(0, 2) && x.before(1, 2), true);
        CHECK.due("later of a thread", x.before(1, 0) || x.before(2, 0) || x.before(2, 1), false);
        CHECK.due("itself", x.before(0, 0) || x.before(2, 2), false);
        for (int k : new int[] {-1, 3, MIN, MAX}) {
            CHECK.due("with " + k, x.before(0, k) || x.before(k, 0) || x.before(k, k), false);
        }
        CHECK.due("events after", x.events(), 3);
    }

    /** Thread 0 forks 1 and 2 (events 0, 1) and does its rows then. */
    private static RaceWatch forked(boolean coarse, int[]... rows) {
        RaceWatch x = Calls.added(Calls.row(0, 6, 1), Calls.row(0, 6, 2));
        Calls.addTo(x, rows);
        x.start(coarse);
        Calls.go(x, 0, 0);
        return x;
    }

    private static void lockOrder() {
        RaceWatch x = forked(false,
                Calls.row(0, 2, 0), Calls.row(0, 2, 0), Calls.row(0, 3, 0), Calls.row(0, 3, 0),
                Calls.row(1, 2, 0), Calls.row(1, 3, 0), Calls.row(1, 2, 1), Calls.row(1, 3, 1),
                Calls.row(2, 2, 0), Calls.row(2, 2, 1));
        Calls.go(x, 0, 0, 0, 0, 1, 1, 1, 1, 2, 2);
        CHECK.due("letting go before taking", x.before(5, 6), true);
        CHECK.due("letting go before a later taking", x.before(5, 10), true);
        CHECK.due("by two threads", x.before(7, 10), true);
        CHECK.due("another lock's", x.before(9, 10), false);
        CHECK.due("until that is taken too", x.before(9, 11), true);
        RaceWatch other = forked(false, Calls.row(0, 2, 0), Calls.row(0, 3, 0), Calls.row(1, 2, 1), Calls.row(1, 3, 1));
        Calls.go(other, 0, 0, 1, 1);
        CHECK.due("different locks", other.before(3, 4), false);
        CHECK.due("different locks, FORK", other.before(0, 4) && !other.before(1, 4), true);
    }

    private static void volatileOrder() {
        RaceWatch x = forked(false, Calls.row(0, 5, 0), Calls.row(1, 5, 0), Calls.row(1, 4, 0), Calls.row(2, 4, 0),
                Calls.row(2, 4, 1));
        Calls.go(x, 0, 1, 2);
        CHECK.due("VWRITE is not before VWRITE", x.before(2, 3), false);
        CHECK.due("each VWRITE is before VREAD", x.before(2, 4) && x.before(3, 4), true);
        Calls.go(x, 1);
        CHECK.due("VREAD is not before VREAD", x.before(4, 5), false);
        CHECK.due("VWRITE of another before it", x.before(2, 5), true);
        RaceWatch y = forked(false, Calls.row(0, 4, 0), Calls.row(0, 5, 1), Calls.row(1, 5, 0), Calls.row(1, 4, 0));
        Calls.go(y, 0, 0, 1, 1);
        CHECK.due("VREAD is not before VWRITE", y.before(2, 4), false);
        CHECK.due("another volatile's", y.before(3, 5), false);
    }

    private static void forkAndJoinOrder() {
        RaceWatch x = Calls.started(false,
                Calls.row(0, 1, 0), Calls.row(0, 6, 1), Calls.row(0, 6, 3), Calls.row(0, 1, 1),
                Calls.row(1, 0, 0), Calls.row(1, 1, 2), Calls.row(3, 7, 1), Calls.row(3, 6, 4), Calls.row(3, 7, 4));
        Calls.go(x, 0, 0, 0, 0, 1, 1, 3, 3, 3);
        CHECK.due("before a FORK, before its thread's", x.before(0, 4) && x.before(1, 5), true);
        CHECK.due("behind a FORK", x.before(2, 4) || x.before(3, 4), false);
        CHECK.due("a thread's before its JOIN", x.before(4, 6) && x.before(5, 6), true);
        CHECK.due("the forker's later ones are not", x.before(3, 6), false);
        CHECK.due("not back", x.before(6, 5), false);
        RaceWatch empty = Calls.started(false, Calls.row(0, 6, 1), Calls.row(0, 6, 2),
                Calls.row(1, 0, 0), Calls.row(1, 6, 3), Calls.row(2, 7, 3));
        Calls.go(empty, 0, 0, 1, 1, 2);
        CHECK.due("a FORK before the JOIN, of a thread without events", empty.before(3, 4) && empty.before(2, 4), true);
    }

    private static void raceKinds() {
        int[][] pairs = {{0, 0}, {0, 1}, {1, 0}, {1, 1}};
        for (int[] pair : pairs) {
            RaceWatch x = forked(false, Calls.row(1, pair[0], 3), Calls.row(2, pair[1], 3));
            Calls.go(x, 1);
            dueRace("one access", x, 3, -1, -1);
            Calls.go(x, 2);
            boolean race = pair[0] + pair[1] > 0;
            dueRace("ops " + pair[0] + pair[1], x, 3, race ? 3 : -1, race ? 2 : -1);
            CHECK.due("races", x.races(), race ? 1 : 0);
            CHECK.due("again", x.again(4, false), race ? 8 : 0);
        }
        RaceWatch x = forked(false, Calls.row(1, 1, 3), Calls.row(2, 1, 2));
        Calls.go(x, 1, 2);
        CHECK.due("different places", x.races(), 0);
    }

    private static void raceStays() {
        RaceWatch x = forked(false, Calls.row(0, 1, 5), Calls.row(1, 0, 5), Calls.row(1, 1, 5), Calls.row(2, 1, 5));
        Calls.go(x, 0, 1, 1, 2);
        dueRace("the earliest stays", x, 5, 3, 2);
        CHECK.due("only one place", x.races(), 1);
        for (int place : new int[] {-1, 8, MIN, MAX}) {
            dueRace("no such place", x, place, -1, -1);
        }
        for (int place = 0; place < 8; place++) {
            if (place != 5) {
                dueRace("another place", x, place, -1, -1);
            }
        }
    }

    private static void partners() {
        RaceWatch x = forked(false, Calls.row(0, 1, 0), Calls.row(1, 0, 0), Calls.row(1, 0, 0), Calls.row(2, 1, 0));
        Calls.go(x, 1, 1, 0);
        dueRace("the latest read", x, 0, 4, 3);
        RaceWatch write = forked(false, Calls.row(1, 1, 0), Calls.row(1, 0, 0), Calls.row(2, 1, 0));
        Calls.go(write, 1, 1, 2);
        dueRace("the write though a read came later", write, 0, 4, 2);
        RaceWatch own = forked(false, Calls.row(1, 0, 0), Calls.row(2, 5, 0), Calls.row(0, 4, 0), Calls.row(0, 0, 0), Calls.row(0, 1, 0));
        Calls.go(own, 1, 2, 0, 0, 0);
        dueRace("not its own later read", own, 0, 6, 2);
        RaceWatch ordered = Calls.started(false,
                Calls.row(0, 1, 0), Calls.row(0, 6, 1), Calls.row(0, 6, 2), Calls.row(0, 6, 3), Calls.row(0, 7, 2), Calls.row(0, 1, 0),
                Calls.row(1, 0, 0), Calls.row(2, 0, 0), Calls.row(3, 0, 0));
        Calls.go(ordered, 0, 0, 0, 0, 3, 1, 2, 0, 0);
        dueRace("the latest that is not ordered", ordered, 0, 8, 5);
        for (int first = 1; first <= 2; first++) {
            RaceWatch reads = forked(false, Calls.row(0, 1, 0), Calls.row(1, 0, 0), Calls.row(2, 0, 0));
            Calls.go(reads, first, 3 - first, 0);
            dueRace("the latest of two threads' reads, " + first + " being first", reads, 0, 4, 3);
        }
        RaceWatch latestWrite = forked(false, Calls.row(1, 1, 0), Calls.row(1, 1, 0), Calls.row(2, 0, 0));
        Calls.go(latestWrite, 1, 1, 2);
        dueRace("the latest write", latestWrite, 0, 4, 3);
    }

    private static void coarsePlaces() {
        for (int coarse = 0; coarse < 2; coarse++) {
            RaceWatch x = forked(coarse == 1, Calls.row(1, 1, 5), Calls.row(2, 10, 3), Calls.row(2, 8, 0));
            Calls.go(x, 1, 2, 2);
            dueRace("coarse or not", x, 4, coarse == 1 ? 3 : -1, coarse == 1 ? 2 : -1);
            for (int place = 5; place < 8; place++) {
                dueRace("coarse or not", x, place, -1, -1);
            }
            CHECK.due("races", x.races(), coarse);
            CHECK.due("again fine", x.again(4, false), 0);
            CHECK.due("again coarse", x.again(4, true), 16);
            CHECK.due("told stays", x.races(), coarse);
        }
        for (int variable = 0; variable < 8; variable++) {
            RaceWatch x = forked(true, Calls.row(1, 1, variable), Calls.row(2, 1, variable));
            Calls.go(x, 1, 2);
            int place = Math.min(variable, 4);
            dueRace("coarse, variable " + variable, x, place, 3, 2);
            CHECK.due("one place", x.races(), 1);
            CHECK.due("again fine " + variable, x.again(4, false), 1 << variable);
            CHECK.due("again coarse " + variable, x.again(4, true), 1 << place);
        }
        RaceWatch fine = forked(false, Calls.row(1, 10, 2), Calls.row(1, 9, 0), Calls.row(2, 0, 6));
        Calls.go(fine, 1, 1, 2);
        dueRace("an array's variable is the variable", fine, 6, 3, 2);
    }

    private static void againEdges() {
        RaceWatch x = forked(false,
                Calls.row(1, 1, 0), Calls.row(1, 1, 6), Calls.row(1, 1, 7),
                Calls.row(2, 1, 7), Calls.row(2, 1, 0), Calls.row(2, 1, 5));
        Calls.go(x, 1, 1, 1, 2, 2, 2);
        int[] fine = {0, 0, 0, 0, 0, 0, 128, 129, 129};
        int[] coarse = {0, 0, 0, 0, 0, 0, 16, 17, 17};
        String was = Calls.look(x);
        for (int k = 0; k <= 8; k++) {
            CHECK.due("again fine of " + k, x.again(k, false), fine[k]);
            CHECK.due("again coarse of " + k, x.again(k, true), coarse[k]);
        }
        for (int k : new int[] {-1, 9, MIN, MAX}) {
            CHECK.due("again fine of " + k, x.again(k, false), -1);
            CHECK.due("again coarse of " + k, x.again(k, true), -1);
        }
        CHECK.due("what it told stays", Calls.look(x), was);
        CHECK.due("races", x.races(), 2);
    }

    private static void allPlacesRace() {
        RaceWatch x = new RaceWatch();
        x.add(0, 6, 1, 0);
        for (int place = 0; place < 8; place++) {
            x.add(0, 1, place, 0);
            x.add(1, 0, place, 0);
        }
        x.start(false);
        Calls.go(x, 0, 0, 0, 0, 0, 0, 0, 0, 0);
        for (int place = 0; place < 8; place++) {
            CHECK.due("races so far", x.races(), place);
            Calls.go(x, 1);
            dueRace("told at once", x, place, 9 + place, 1 + place);
        }
        CHECK.due("all places", x.races(), 8);
        CHECK.due("all places again", x.again(17, false), 255);
        CHECK.due("all coarse places again", x.again(17, true), 31);
    }

    public static void main(String[] args) {
        beforeEdges();
        lockOrder();
        volatileOrder();
        forkAndJoinOrder();
        raceKinds();
        raceStays();
        partners();
        coarsePlaces();
        againEdges();
        allPlacesRace();
        CHECK.end();
    }
}
