/** Many runs of at most 512 calls, made by a fixed rule, each answer held against that of a SlowWatch. */
final class RandomRunsTest {
    private static final int RUNS = 3000;
    private static final int CALLS = 512;
    private static final Check CHECK = new Check();

    private long seed;
    private RaceWatch fast = new RaceWatch();
    private SlowWatch slow = new SlowWatch();
    private final String name;
    private int calls = 0;

    private RandomRunsTest(int run) {
        seed = 7919L * run + 17;
        name = "run " + run + ", ";
    }

    private int below(int bound) {
        seed = seed * 6364136223846793005L + 1442695040888963407L;
        return (int) ((seed >>> 33) % bound);
    }

    private boolean oneIn(int n) {
        return below(n) == 0;
    }

    /** Mostly a number below the bound, now and then one outside of it. */
    private int number(int bound) {
        int[] odd = {-1, bound, bound + 1, Integer.MAX_VALUE, Integer.MIN_VALUE};
        return oneIn(25) ? odd[below(odd.length)] : below(bound);
    }

    private String call(String text) {
        calls++;
        return name + "call " + calls + ", " + text;
    }

    private void add(int t, int op, int a, int b) {
        String text = call("add(" + t + ", " + op + ", " + a + ", " + b + ")");
        CHECK.due(text, fast.add(t, op, a, b), slow.add(t, op, a, b));
    }

    private void anyAdd(int t, int length) {
        int[] bounds = {8, 8, 3, 3, 2, 2, 5, 5, 9, 9, 6, 9, 9};
        int op = number(13);
        int a = op < 0 || op > 12 ? 0 : number(bounds[op]);
        // Fork, join and loop are mostly made such that the programs are not bad.
        if ((op == Calls.FORK || op == Calls.JOIN) && !oneIn(200)) {
            a = 1 + (t + below(3)) % 4;
            op = a == t ? Calls.WRITE : op;
        }
        if (op == Calls.LOOP && length == 0 && !oneIn(50)) {
            op = Calls.NEXT;
        }
        add(t, op, a, op == Calls.LOOP && length > 0 && !oneIn(200) ? below(length) : number(13));
    }

    private void addPrograms() {
        int few = 1 + below(2);
        for (int t = 1; t <= 4 && !oneIn(30); t++) {
            add(0, Calls.FORK, t, 0);
        }
        for (int t = 0; t < 5; t++) {
            int length = oneIn(10) ? 0 : below(14);
            int section = below(4);
            for (int n = 0; n < length; n++) {
                if (section == 0 && n == 0) {
                    add(t, Calls.ACQUIRE, below(few), 0);
                } else if (section == 1 && n % 3 == 0) {
                    add(t, oneIn(2) ? Calls.VREAD : Calls.VWRITE, below(few), 0);
                } else if (section == 2 || oneIn(2)) {
                    add(t, oneIn(3) ? Calls.WRITE : oneIn(3) ? Calls.AWRITE : Calls.READ, below(8), 0);
                } else {
                    anyAdd(t, n);
                }
            }
        }
    }

    private void start() {
        boolean coarse = oneIn(2);
        String text = call("start(" + coarse + ")");
        CHECK.due(text, Calls.start(fast, coarse), slow.start(coarse));
    }

    private void step(int t) {
        String text = call("step(" + t + ")");
        CHECK.due(text, Calls.step(fast, t), slow.step(t));
    }

    private void look() {
        int n = slow.events();
        int k = number(n + 1);
        switch (below(9)) {
            case 0 -> CHECK.due(call("state"), fast.state(k), slow.state(k));
            case 1 -> CHECK.due(call("holder"), fast.holder(k % 4), slow.holder(k % 4));
            case 2 -> CHECK.due(call("events"), fast.events(), n);
            case 3 -> CHECK.due(call("event"), fast.event(k), slow.event(k));
            case 4 -> {
                int j = number(n + 1);
                CHECK.due(call("before(" + k + ", " + j + ")"), fast.before(k, j), slow.before(k, j));
            }
            case 5 -> CHECK.due(call("races"), fast.races(), slow.races());
            case 6 -> CHECK.due(call("again(" + k + ", false)"), fast.again(k, false), slow.again(k, false));
            case 7 -> CHECK.due(call("again(" + k + ", true)"), fast.again(k, true), slow.again(k, true));
            default -> {
                int place = number(8);
                CHECK.due(call("race(" + place + ")"), fast.race(place), slow.race(place));
                CHECK.due(call("partner(" + place + ")"), fast.partner(place), slow.partner(place));
            }
        }
    }

    private void lookAtAll() {
        for (int t = 0; t < 5; t++) {
            CHECK.due(call("state(" + t + ")"), fast.state(t), slow.state(t));
        }
        for (int l = 0; l < 3; l++) {
            CHECK.due(call("holder(" + l + ")"), fast.holder(l), slow.holder(l));
        }
        for (int place = 0; place < 8; place++) {
            CHECK.due(call("race(" + place + ")"), fast.race(place), slow.race(place));
            CHECK.due(call("partner(" + place + ")"), fast.partner(place), slow.partner(place));
        }
    }

    private void clear() {
        call("clear()");
        fast.clear();
        slow = new SlowWatch();
    }

    /** One time from new or cleared on: programs, a start, steps with looks between them. */
    private void round(int last) {
        addPrograms();
        start();
        int looks = 2 + below(12);
        while (calls < last) {
            if (oneIn(looks)) {
                look();
            } else if (oneIn(60)) {
                start();
            } else if (oneIn(60)) {
                anyAdd(below(5), 3);
            } else {
                step(number(5));
            }
        }
        lookAtAll();
    }

    private void go() {
        if (oneIn(2)) {
            round(CALLS / 2 - 40);
            clear();
            lookAtAll();
        }
        round(CALLS - 40);
        while (calls < CALLS - 2) {
            look();
        }
    }

    public static void main(String[] args) {
        for (int run = 0; run < RUNS; run++) {
            new RandomRunsTest(run).go();
        }
        CHECK.end();
    }
}
