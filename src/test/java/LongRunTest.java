import java.util.Random;
import java.util.Set;
import java.util.TreeSet;

/**
 * Objects that are used for just 512 calls, of all methods, mixed. It is not asked here in which order the disk
 * serves, but what holds in every order: the last value that was saved is the newest, what was synced comes to
 * the media, a crash leaves what is on the media, and time and counts go on as the calls tell.
 */
final class LongRunTest {
    private static final Checks checks = new Checks();
    private static final int RUNS = 150;
    private static final int CALLS = 512;
    private static final int BLOCKS = 256;
    /** The most calls that one check of mixedCalls makes. */
    private static final int LONGEST_CHECK = 5;
    private static final String METHODS =
        "buffer crash drain load media newest policy queued request save step sync told used";

    private final String run;
    private final Random random;
    private final int span;
    private final BlockLayer x = new BlockLayer();
    private final int[] saved = new int[BLOCKS];
    private final Set<String> called = new TreeSet<>();
    private int calls;
    private int time;
    private int policy = 3;
    private int hits;
    private int misses;
    private int refusals;

    private LongRunTest(String kind, int number) {
        run = kind + " run " + number;
        random = new Random(run.hashCode());
        span = new int[] {14, 40, BLOCKS}[number % 3];
    }

    public static void main(String[] args) {
        int ofAllMethods = 0;
        int refusals = 0;
        int losses = 0;
        for (int i = 0; i < RUNS; i++) {
            LongRunTest mixed = new LongRunTest("mixed", i);
            mixed.mixedCalls(CALLS);
            mixed.endOfRun();
            ofAllMethods += String.join(" ", mixed.called).equals(METHODS) ? 1 : 0;
            refusals += mixed.refusals;
            losses += new LongRunTest("crash", i).endsWithCrash();
            new LongRunTest("sync", i).endsWithSync();
        }
        checks.due("runs that call all methods", RUNS, ofAllMethods);
        checks.due("the queue refused some calls", 1, refusals > 0 ? 1 : 0);
        checks.due("crashes lost some blocks", 1, losses > 0 ? 1 : 0);
        checks.finish();
    }

    /** All calls go through here, so that none is left uncounted. */
    private String call(String name, Checks.Call call) {
        calls++;
        called.add(name);
        return Checks.answerOf(call);
    }

    private int number(String name, Checks.Call call) {
        return Integer.parseInt(call(name, call));
    }

    private void due(String what, long due, String got) {
        checks.due(run + ", call " + calls + ": " + what, Long.toString(due), got);
    }

    private void between(String name, int least, int greatest, Checks.Call call) {
        int answer = number(name, call);
        checks.due(run + ", call " + calls + ": " + name + " answered " + answer + ", within its range",
            1, answer >= least && answer <= greatest ? 1 : 0);
    }

    private void endOfRun() {
        checks.due("calls of " + run, CALLS, calls);
    }

    private void mixedCalls(int until) {
        syncAndCrash();
        while (calls <= until - LONGEST_CHECK) {
            mixedCall(random.nextInt(100), random.nextInt(span) * (BLOCKS / span));
        }
        while (calls < until) {
            newest(random.nextInt(BLOCKS));
        }
    }

    private void mixedCall(int kind, int block) {
        if (kind < 35) {
            save(block);
        } else if (kind < 42) {
            load(block);
        } else if (kind < 47) {
            sync();
        } else if (kind < 60) {
            step(1 + random.nextInt(10));
        } else if (kind < 61) {
            syncAndCrash();
        } else if (kind < 64) {
            changePolicy(random.nextInt(5));
        } else {
            look(kind, block);
        }
    }

    private void look(int kind, int block) {
        switch (kind % 9) {
            case 0: between("buffer", 0, 2, () -> x.buffer(block)); break;
            case 1: between("used", -1, BLOCKS - 1, () -> x.used(random.nextInt(11))); break;
            case 2: between("queued", -1, 11 * CALLS, () -> x.queued(random.nextInt(41))); break;
            case 3: between("request", -1, 2, () -> x.request(random.nextInt(CALLS), 0)); break;
            case 4: due("told(0)", time, call("told", () -> x.told(0))); break;
            case 5: due("told(6)", hits, call("told", () -> x.told(6))); break;
            case 6: due("told(7)", misses, call("told", () -> x.told(7))); break;
            case 7: mediaOfNeverSaved(block); break;
            default: newest(block); break;
        }
    }

    private void save(int block) {
        boolean hasBuffer = number("buffer", () -> x.buffer(block)) != 0;
        int v = random.nextInt();
        String answer = call("save", () -> x.save(block, v));
        if (!isRefusal(answer, 2)) {
            due("save(" + block + ", " + v + ")", hasBuffer ? saved[block] : 0, answer);
            saved[block] = v;
        }
    }

    private void load(int block) {
        boolean hasBuffer = number("buffer", () -> x.buffer(block)) != 0;
        String answer = call("load", () -> x.load(block));
        if (isRefusal(answer, 2)) {
            return;
        }
        due("load(" + block + ")", saved[block], answer);
        int now = number("told", () -> x.told(0));
        if (hasBuffer) {
            hits++;
            due("the time after a hit", time, Integer.toString(now));
        } else {
            misses++;
            checks.due(run + ", call " + calls + ": a READ takes 2 units or more", 1, now - time >= 2 ? 1 : 0);
        }
        time = now;
    }

    private void sync() {
        int buffers = number("told", () -> x.told(5));
        String answer = call("sync", x::sync);
        if (!isRefusal(answer, buffers + 1)) {
            int dirty = Integer.parseInt(answer);
            checks.due(run + ", call " + calls + ": no more are dirty than there are",
                1, dirty >= 0 && dirty <= buffers ? 1 : 0);
        }
    }

    private void step(int n) {
        time += n;
        due("step(" + n + ")", time, call("step", () -> x.step(n)));
    }

    private void drain() {
        time += number("drain", x::drain);
    }

    /** Nothing is lost then, so that the last values that were saved are the newest still. */
    private void syncAndCrash() {
        drain();
        call("sync", x::sync);
        drain();
        due("crash() with all on the media", 0, call("crash", x::crash));
    }

    private void changePolicy(int p) {
        due("policy(" + p + ")", policy, call("policy", () -> x.policy(p)));
        policy = p;
    }

    private void newest(int block) {
        due("newest(" + block + ")", saved[block], call("newest", () -> x.newest(block)));
    }

    private void mediaOfNeverSaved(int block) {
        String answer = call("media", () -> x.media(block));
        if (saved[block] == 0) {
            due("media(" + block + ") of a block that no one saved", 0, answer);
        }
    }

    private boolean isRefusal(String answer, int room) {
        boolean isRefusal = answer.equals("throws.UnsupportedOperationException");
        int waiting = number("told", () -> x.told(3));
        if (isRefusal) {
            refusals++;
            checks.due(run + ", call " + calls + ": no room for " + room + " behind " + waiting,
                1, waiting + room > 40 ? 1 : 0);
        }
        return isRefusal;
    }

    /** The answer of the crash is counted here by the blocks whose last value is not on the media. */
    private int endsWithCrash() {
        mixedCalls(CALLS - BLOCKS - 1);
        int lost = 0;
        for (int block = 0; block < BLOCKS; block++) {
            int b = block;
            lost += number("media", () -> x.media(b)) == saved[block] ? 0 : 1;
        }
        due("crash()", lost, call("crash", x::crash));
        endOfRun();
        return lost;
    }

    private void endsWithSync() {
        mixedCalls(CALLS - BLOCKS - 3);
        drain();
        call("sync", x::sync);
        drain();
        for (int block = 0; block < BLOCKS; block++) {
            int b = block;
            due("media(" + b + ") after sync() and drain()", saved[b], call("media", () -> x.media(b)));
        }
        endOfRun();
    }
}
