import java.util.ArrayList;
import java.util.List;

/**
 * The document's words taken one by one, without any thought of speed: the happens-before relation is
 * the closure of its direct pairs, and races are looked for among all pairs of accesses.
 */
final class SlowWatch {
    /** An event, with what its pairs need to know: whether a lock was let go or taken by it. */
    record Event(int thread, int op, int of, boolean letsGo, boolean takes) {
        boolean isWrite() {
            return op == Calls.WRITE || op == Calls.AWRITE;
        }

        boolean isAccess() {
            return op == Calls.READ || op == Calls.AREAD || isWrite();
        }

        int place(boolean coarse) {
            return coarse && of >= 4 ? 4 : of;
        }
    }

    private final List<List<int[]>> programs = new ArrayList<>();
    private final int[] phase = new int[5];
    private final int[] next = new int[5];
    private final long[] register = new long[5];
    private final List<List<Integer>> holders = new ArrayList<>();
    private final List<Event> events = new ArrayList<>();
    private boolean[][] closure = new boolean[0][0];
    private boolean started;
    private boolean coarse;

    SlowWatch() {
        for (int t = 0; t < 5; t++) {
            programs.add(new ArrayList<>());
        }
        for (int l = 0; l < 3; l++) {
            holders.add(new ArrayList<>());
        }
    }

    long add(int t, int op, int a, int b) {
        int[] bounds = {8, 8, 3, 3, 2, 2, 5, 5};
        if (t < 0 || t > 4 || started || op < 0 || op > 12 || programs.get(t).size() == 12) {
            return -1;
        }
        if (op < bounds.length && (a < 0 || a >= bounds[op])) {
            return -1;
        }
        programs.get(t).add(new int[] {op, a, b});
        return programs.get(t).size() - 1;
    }

    private boolean bad() {
        boolean bad = programs.get(0).isEmpty();
        for (int t = 0; t < 5; t++) {
            for (int n = 0; n < programs.get(t).size(); n++) {
                int[] i = programs.get(t).get(n);
                bad |= i[0] == Calls.LOOP && !(0 <= i[2] && i[2] <= n - 1);
                bad |= (i[0] == Calls.FORK || i[0] == Calls.JOIN) && (i[1] == t || i[1] == 0);
            }
        }
        return bad;
    }

    String start(boolean asCoarse) {
        if (started) {
            return "throws.IllegalStateException";
        }
        if (bad()) {
            return "throws.IllegalArgumentException";
        }
        started = true;
        coarse = asCoarse;
        phase[0] = 1;
        int sum = 0;
        for (List<int[]> program : programs) {
            sum += program.size();
        }
        return "" + sum;
    }

    String step(int t) {
        if (t < 0 || t > 4) {
            return "throws.IndexOutOfBoundsException";
        }
        if (!started || phase[t] != 1) {
            return "throws.IllegalStateException";
        }
        int[] i = programs.get(t).get(next[t]);
        int a = i[1];
        int following = next[t] + 1;
        if (i[0] == Calls.SET) {
            register[t] = a;
        } else if (i[0] == Calls.NEXT) {
            register[t] += 1;
        } else if (i[0] == Calls.LOOP) {
            register[t] -= 1;
            following = register[t] > 0 ? i[2] : following;
        } else if (infeasible(t, i[0], a)) {
            return "throws.UnsupportedOperationException";
        } else if (waits(t, i[0], a) || events.size() == 200) {
            return "0";
        } else {
            happen(t, i[0], a);
        }
        next[t] = following;
        phase[t] = following == programs.get(t).size() ? 2 : 1;
        return i[0] <= Calls.AWRITE ? "1" : "2";
    }

    private boolean infeasible(int t, int op, int a) {
        return op == Calls.RELEASE && !holders.get(a).contains(t)
                || op == Calls.FORK && phase[a] != 0
                || op == Calls.JOIN && phase[a] == 0;
    }

    private boolean waits(int t, int op, int a) {
        return op == Calls.ACQUIRE && !holders.get(a).isEmpty() && !holders.get(a).contains(t)
                || op == Calls.JOIN && phase[a] != 2;
    }

    private void happen(int t, int op, int a) {
        boolean letsGo = false;
        boolean takes = false;
        int of = a;
        if (op == Calls.ACQUIRE) {
            takes = holders.get(a).isEmpty();
            holders.get(a).add(t);
        } else if (op == Calls.RELEASE) {
            holders.get(a).remove(0);
            letsGo = holders.get(a).isEmpty();
        } else if (op == Calls.FORK) {
            phase[a] = programs.get(a).isEmpty() ? 2 : 1;
        } else if (op == Calls.AREAD || op == Calls.AWRITE) {
            of = 4 + (int) (register[t] & 3);
        }
        events.add(new Event(t, op, of, letsGo, takes));
        closure = null;
    }

    private static boolean direct(Event x, Event y) {
        return x.thread() == y.thread()
                || x.letsGo() && y.takes() && x.of() == y.of()
                || x.op() == Calls.VWRITE && y.op() == Calls.VREAD && x.of() == y.of()
                || x.op() == Calls.FORK && y.thread() == x.of()
                || x.op() == Calls.FORK && y.op() == Calls.JOIN && x.of() == y.of()
                || y.op() == Calls.JOIN && x.thread() == y.of();
    }

    private boolean[][] closure() {
        if (closure == null) {
            int n = events.size();
            closure = new boolean[n][n];
            for (int j = 0; j < n; j++) {
                for (int i = 0; i < j; i++) {
                    closure[i][j] = direct(events.get(i), events.get(j));
                }
            }
            for (int m = 0; m < n; m++) {
                for (int i = 0; i < n; i++) {
                    for (int j = 0; closure[i][m] && j < n; j++) {
                        closure[i][j] |= closure[m][j];
                    }
                }
            }
        }
        return closure;
    }

    long state(int t) {
        return t < 0 || t > 4 || !started ? -1 : phase[t] + 4 * next[t] + 64 * register[t];
    }

    long holder(int l) {
        return l < 0 || l > 2 || holders.get(l).isEmpty() ? -1 : holders.get(l).get(0) + 8 * holders.get(l).size();
    }

    int events() {
        return events.size();
    }

    private boolean has(int k) {
        return k >= 0 && k < events.size();
    }

    long event(int k) {
        return has(k) ? events.get(k).thread() + 8 * events.get(k).op() + 128 * events.get(k).of() : -1;
    }

    boolean before(int i, int j) {
        return has(i) && has(j) && closure()[i][j];
    }

    private boolean races(int f, int e, int place, boolean asCoarse) {
        Event x = events.get(f);
        Event y = events.get(e);
        return x.isAccess() && y.isAccess() && x.place(asCoarse) == place && y.place(asCoarse) == place
                && x.thread() != y.thread() && (x.isWrite() || y.isWrite()) && !closure()[f][e];
    }

    /** The race at a place among the first k events. */
    private int race(int place, int k, boolean asCoarse) {
        for (int e = 0; e < k; e++) {
            for (int f = 0; f < e; f++) {
                if (races(f, e, place, asCoarse)) {
                    return e;
                }
            }
        }
        return -1;
    }

    long race(int place) {
        return race(place, events.size(), coarse);
    }

    long partner(int place) {
        int e = race(place, events.size(), coarse);
        for (int f = e - 1; f >= 0; f--) {
            if (events.get(f).isWrite() && events.get(f).place(coarse) == place) {
                if (races(f, e, place, coarse)) {
                    return f;
                }
                break;
            }
        }
        for (int f = e - 1; f >= 0; f--) {
            if (!events.get(f).isWrite() && races(f, e, place, coarse)) {
                return f;
            }
        }
        return -1;
    }

    long again(int k, boolean asCoarse) {
        if (k < 0 || k > events.size()) {
            return -1;
        }
        int sum = 0;
        for (int place = 0; place < 8; place++) {
            sum += race(place, k, asCoarse) >= 0 ? 1 << place : 0;
        }
        return sum;
    }

    long races() {
        return Long.bitCount(again(events.size(), coarse));
    }
}
