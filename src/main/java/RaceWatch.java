import java.util.Arrays;

/**
 * A watch over up to five threads that read and write the same variables: it vets their programs,
 * runs them one step at a time, keeps the trace and tells at once when two accesses race.
 */
public final class RaceWatch {
    private static final int NONE = -1;

    private static final int THREADS = 5;
    private static final int LOCKS = 3;
    private static final int VOLATILES = 2;
    private static final int VARIABLES = 8;
    private static final int PROGRAM_ROOM = 12;
    private static final int TRACE_ROOM = 200;

    private static final int READ = 0;
    private static final int WRITE = 1;
    private static final int ACQUIRE = 2;
    private static final int RELEASE = 3;
    private static final int VREAD = 4;
    private static final int VWRITE = 5;
    private static final int FORK = 6;
    private static final int JOIN = 7;
    private static final int AREAD = 8;
    private static final int AWRITE = 9;
    private static final int SET = 10;
    private static final int NEXT = 11;
    private static final int LOOP = 12;

    /** The first of the four variables that AREAD and AWRITE choose from, and the one coarse place of all four. */
    private static final int ARRAY_START = 4;
    private static final int ARRAY_MASK = 3;

    private static final int NEW = 0;
    private static final int RUNNING = 1;
    private static final int ENDED = 2;

    private static final int WAITED = 0;
    private static final int DID_EVENT = 1;
    private static final int DID_OTHER = 2;

    private final Program[] programs;
    private final Worker[] workers;
    private final Lock[] locks;
    private final Clock[] volatiles;
    private final Trace trace;
    /**
     * Both books are kept from the start, whichever the watch was started with: a race is the earliest
     * one at its place, so a book of the whole trace also tells what any first part of it holds.
     */
    private final RaceBook fineBook;
    private final RaceBook coarseBook;
    private boolean started;
    private boolean startedCoarse;

    public RaceWatch() {
        programs = new Program[THREADS];
        workers = new Worker[THREADS];
        for (int t = 0; t < THREADS; t++) {
            programs[t] = new Program();
            workers[t] = new Worker();
        }
        locks = new Lock[LOCKS];
        for (int l = 0; l < LOCKS; l++) {
            locks[l] = new Lock();
        }
        volatiles = new Clock[VOLATILES];
        for (int v = 0; v < VOLATILES; v++) {
            volatiles[v] = new Clock();
        }
        trace = new Trace();
        fineBook = new RaceBook();
        coarseBook = new RaceBook();
        started = false;
        startedCoarse = false;
    }

    public int add(int t, int op, int a, int b) {
        if (started || !isThread(t) || programs[t].isFull() || !isNamed(op, a)) {
            return NONE;
        }
        return programs[t].append(op, a, b);
    }

    public void clear() {
        for (int t = 0; t < THREADS; t++) {
            programs[t].forget();
            workers[t].forget();
        }
        for (int l = 0; l < LOCKS; l++) {
            locks[l].forget();
        }
        for (int v = 0; v < VOLATILES; v++) {
            volatiles[v].forget();
        }
        trace.forget();
        fineBook.forget();
        coarseBook.forget();
        started = false;
        startedCoarse = false;
    }

    public int start(boolean coarse) throws IllegalStateException, IllegalArgumentException {
        if (started) {
            throw new IllegalStateException();
        }
        if (areBad()) {
            throw new IllegalArgumentException();
        }
        started = true;
        startedCoarse = coarse;
        workers[0].phase = RUNNING;
        return instructions();
    }

    public int step(int t)
            throws IndexOutOfBoundsException, IllegalStateException, UnsupportedOperationException {
        if (!isThread(t)) {
            throw new IndexOutOfBoundsException();
        }
        if (!started || workers[t].phase != RUNNING) {
            throw new IllegalStateException();
        }
        int op = programs[t].ops[workers[t].next];
        int a = programs[t].as[workers[t].next];
        if (!isEvent(op)) {
            doQuietly(t, op, a);
            return DID_OTHER;
        }
        if (isInfeasible(t, op, a)) {
            throw new UnsupportedOperationException();
        }
        if (trace.isFull() || mustWait(t, op, a)) {
            return WAITED;
        }
        doEvent(t, op, a);
        return DID_EVENT;
    }

    public long state(int t) {
        if (!started || !isThread(t)) {
            return NONE;
        }
        Worker worker = workers[t];
        return worker.phase + 4L * worker.next + 64L * worker.register;
    }

    public int holder(int l) {
        if (l < 0 || l >= LOCKS || locks[l].depth == 0) {
            return NONE;
        }
        return locks[l].owner + 8 * locks[l].depth;
    }

    public int events() {
        return trace.count;
    }

    public int event(int k) {
        return trace.has(k) ? trace.codes[k] : NONE;
    }

    public boolean before(int i, int j) {
        return trace.has(i) && trace.has(j) && trace.isOrdered(i, j);
    }

    public int race(int place) {
        return isVariable(place) ? ownBook().raceAt[place] : NONE;
    }

    public int partner(int place) {
        return isVariable(place) ? ownBook().partnerOf[place] : NONE;
    }

    public int races() {
        return Integer.bitCount(ownBook().placesWithin(trace.count));
    }

    public int again(int k, boolean coarse) {
        if (k < 0 || k > trace.count) {
            return NONE;
        }
        return bookOf(coarse).placesWithin(k);
    }

    private RaceBook ownBook() {
        return bookOf(startedCoarse);
    }

    private RaceBook bookOf(boolean coarse) {
        return coarse ? coarseBook : fineBook;
    }

    private static boolean isThread(int t) {
        return t >= 0 && t < THREADS;
    }

    private static boolean isVariable(int a) {
        return a >= 0 && a < VARIABLES;
    }

    private static boolean isEvent(int op) {
        return op >= READ && op <= AWRITE;
    }

    private static boolean isArrayAccess(int op) {
        return op == AREAD || op == AWRITE;
    }

    private static boolean isWrite(int op) {
        return op == WRITE || op == AWRITE;
    }

    private static boolean isAccess(int op) {
        return op == READ || op == AREAD || isWrite(op);
    }

    /** Whether there is such an op and what it names by a. */
    private static boolean isNamed(int op, int a) {
        switch (op) {
            case READ:
            case WRITE:
                return isVariable(a);
            case ACQUIRE:
            case RELEASE:
                return a >= 0 && a < LOCKS;
            case VREAD:
            case VWRITE:
                return a >= 0 && a < VOLATILES;
            case FORK:
            case JOIN:
                return isThread(a);
            default:
                return op >= AREAD && op <= LOOP;
        }
    }

    private boolean areBad() {
        for (int t = 0; t < THREADS; t++) {
            if (programs[t].isBad(t)) {
                return true;
            }
        }
        return programs[0].size == 0;
    }

    private int instructions() {
        int sum = 0;
        for (int t = 0; t < THREADS; t++) {
            sum += programs[t].size;
        }
        return sum;
    }

    private boolean isInfeasible(int t, int op, int a) {
        switch (op) {
            case RELEASE:
                return !locks[a].isHeldBy(t);
            case FORK:
                return workers[a].phase != NEW;
            case JOIN:
                return workers[a].phase == NEW;
            default:
                return false;
        }
    }

    private boolean mustWait(int t, int op, int a) {
        switch (op) {
            case ACQUIRE:
                return locks[a].depth > 0 && !locks[a].isHeldBy(t);
            case JOIN:
                return workers[a].phase != ENDED;
            default:
                return false;
        }
    }

    private void doQuietly(int t, int op, int a) {
        Worker worker = workers[t];
        int following = worker.next + 1;
        if (op == SET) {
            worker.register = a;
        } else if (op == NEXT) {
            worker.register++;
        } else {
            worker.register--;
            if (worker.register > 0) {
                following = programs[t].bs[worker.next];
            }
        }
        worker.goTo(following, programs[t].size);
    }

    private void doEvent(int t, int op, int a) {
        Worker worker = workers[t];
        int of = isArrayAccess(op) ? ARRAY_START + (int) (worker.register & ARRAY_MASK) : a;
        worker.clock.tick(t);
        synchronise(t, op, a);
        int e = trace.append(t + 8 * op + 128 * of, worker.clock);
        if (isAccess(op)) {
            fineBook.enter(trace, e, of, isWrite(op));
            coarseBook.enter(trace, e, Math.min(of, ARRAY_START), isWrite(op));
        }
        worker.goTo(worker.next + 1, programs[t].size);
    }

    /** What the event means for locks, volatiles and other threads, and what its thread learns by it. */
    private void synchronise(int t, int op, int a) {
        Clock clock = workers[t].clock;
        switch (op) {
            case ACQUIRE:
                locks[a].take(t, clock);
                break;
            case RELEASE:
                locks[a].letGo(clock);
                break;
            case VREAD:
                clock.learn(volatiles[a]);
                break;
            case VWRITE:
                // A write does not learn of earlier writes, but a later read comes after all of them.
                volatiles[a].learn(clock);
                break;
            case FORK:
                workers[a].begin(clock, programs[a].size);
                break;
            case JOIN:
                clock.learn(workers[a].clock);
                break;
            default:
                break;
        }
    }

    /** The instructions of one thread. */
    private static final class Program {
        private final int[] ops;
        private final int[] as;
        private final int[] bs;
        private int size;

        private Program() {
            ops = new int[PROGRAM_ROOM];
            as = new int[PROGRAM_ROOM];
            bs = new int[PROGRAM_ROOM];
            size = 0;
        }

        private boolean isFull() {
            return size >= PROGRAM_ROOM;
        }

        private int append(int op, int a, int b) {
            int number = size;
            ops[number] = op;
            as[number] = a;
            bs[number] = b;
            size = number + 1;
            return number;
        }

        private void forget() {
            size = 0;
        }

        private boolean isBad(int owner) {
            for (int n = 0; n < size; n++) {
                if (ops[n] == LOOP && (bs[n] < 0 || bs[n] >= n)) {
                    return true;
                }
                if ((ops[n] == FORK || ops[n] == JOIN) && (as[n] == owner || as[n] == 0)) {
                    return true;
                }
            }
            return false;
        }
    }

    /** One thread as it runs; while it is RUNNING, next is the number of an instruction that is there. */
    private static final class Worker {
        private final Clock clock;
        private int phase;
        private int next;
        /** A long, so that it can grow and fall past the ends of int: the document tells of no wrap-around. */
        private long register;

        private Worker() {
            clock = new Clock();
            phase = NEW;
            next = 0;
            register = 0;
        }

        private void begin(Clock forker, int size) {
            clock.learn(forker);
            phase = RUNNING;
            goTo(0, size);
        }

        private void goTo(int number, int size) {
            next = number;
            if (number >= size) {
                phase = ENDED;
            }
        }

        private void forget() {
            clock.forget();
            phase = NEW;
            next = 0;
            register = 0;
        }
    }

    /** A lock, with what the last thread knew that let it go. */
    private static final class Lock {
        private final Clock clock;
        private int owner;
        private int depth;

        private Lock() {
            clock = new Clock();
            owner = NONE;
            depth = 0;
        }

        private boolean isHeldBy(int t) {
            return depth > 0 && owner == t;
        }

        private void take(int t, Clock taker) {
            if (depth == 0) {
                taker.learn(clock);
            }
            owner = t;
            depth++;
        }

        private void letGo(Clock releaser) {
            depth--;
            if (depth == 0) {
                owner = NONE;
                clock.learn(releaser);
            }
        }

        private void forget() {
            clock.forget();
            owner = NONE;
            depth = 0;
        }
    }

    /** A vector clock: for each thread, how many of its events are known to have happened. */
    private static final class Clock {
        private final int[] counts;

        private Clock() {
            counts = new int[THREADS];
        }

        private void tick(int t) {
            counts[t]++;
        }

        private void learn(Clock other) {
            for (int t = 0; t < THREADS; t++) {
                counts[t] = Math.max(counts[t], other.counts[t]);
            }
        }

        private void forget() {
            Arrays.fill(counts, 0);
        }
    }

    /** The events, each as the face tells it, with the clock of its thread at that time. */
    private static final class Trace {
        private final int[] codes;
        private final int[] clocks;
        private int count;

        private Trace() {
            codes = new int[TRACE_ROOM];
            clocks = new int[TRACE_ROOM * THREADS];
            count = 0;
        }

        private boolean isFull() {
            return count >= TRACE_ROOM;
        }

        private boolean has(int k) {
            return k >= 0 && k < count;
        }

        private int append(int code, Clock clock) {
            int k = count;
            codes[k] = code;
            System.arraycopy(clock.counts, 0, clocks, k * THREADS, THREADS);
            count = k + 1;
            return k;
        }

        private int threadOf(int k) {
            return codes[k] & 7;
        }

        /** Whether event i happens before event j: j's thread knew then of as many events of i's thread. */
        private boolean isOrdered(int i, int j) {
            int t = threadOf(i);
            return i < j && clocks[i * THREADS + t] <= clocks[j * THREADS + t];
        }

        private void forget() {
            count = 0;
        }
    }

    /** The races at the places, fine or coarse, with the accesses that a later one may race with. */
    private static final class RaceBook {
        private final int[] raceAt;
        private final int[] partnerOf;
        private final int[] lastWrite;
        /** By place and thread. */
        private final int[] lastRead;

        private RaceBook() {
            raceAt = new int[VARIABLES];
            partnerOf = new int[VARIABLES];
            lastWrite = new int[VARIABLES];
            lastRead = new int[VARIABLES * THREADS];
            forget();
        }

        private void forget() {
            Arrays.fill(raceAt, NONE);
            Arrays.fill(partnerOf, NONE);
            Arrays.fill(lastWrite, NONE);
            Arrays.fill(lastRead, NONE);
        }

        private void enter(Trace trace, int e, int place, boolean write) {
            if (raceAt[place] == NONE) {
                int rival = rivalOf(trace, e, place, write);
                if (rival != NONE) {
                    raceAt[place] = e;
                    partnerOf[place] = rival;
                }
            }
            if (write) {
                lastWrite[place] = e;
            } else {
                lastRead[place * THREADS + trace.threadOf(e)] = e;
            }
        }

        /**
         * The latest write stands for all writes: as there was no race here so far, the others happen
         * before it. A thread's latest read stands for its earlier ones in the same way.
         */
        private int rivalOf(Trace trace, int e, int place, boolean write) {
            int latest = lastWrite[place];
            if (latest != NONE && !trace.isOrdered(latest, e)) {
                return latest;
            }
            return write ? looseRead(trace, e, place) : NONE;
        }

        private int looseRead(Trace trace, int e, int place) {
            int found = NONE;
            for (int t = 0; t < THREADS; t++) {
                int read = lastRead[place * THREADS + t];
                if (read > found && !trace.isOrdered(read, e)) {
                    found = read;
                }
            }
            return found;
        }

        /** The sum of 1 << place over the places whose race came among the first k events. */
        private int placesWithin(int k) {
            int sum = 0;
            for (int place = 0; place < VARIABLES; place++) {
                if (raceAt[place] != NONE && raceAt[place] < k) {
                    sum += 1 << place;
                }
            }
            return sum;
        }
    }
}
