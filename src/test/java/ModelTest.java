import java.util.Map;
import java.util.Random;
import java.util.TreeMap;

/** Random runs, always the same ones, each of 512 calls, compared with PlainModel answer by answer. */
final class ModelTest {
    private static final Checks checks = new Checks();
    private static final int RUNS = 1500;
    private static final int CALLS = 512;

    /** How often each thing that the runs must reach was reached. */
    private static int compared;
    private static int refusedByQueue;
    private static int absorbed;
    private static int fullCaches;
    private static int lossyCrashes;
    private static final int[] servedUnder = new int[5];
    private static final Map<String, Integer> callsOf = new TreeMap<>();

    public static void main(String[] args) {
        for (int run = 0; run < RUNS; run++) {
            oneRun(run);
        }
        checks.due("calls of all runs", RUNS * CALLS, compared);
        checks.due("methods that were called",
            "[buffer, crash, drain, load, media, newest, policy, queued, request, save, step, sync, told, used]",
            callsOf.keySet().toString());
        callsOf.forEach((method, times) -> reached("calls of " + method, times));
        reached("refusals by the queue", refusedByQueue);
        reached("absorbed requests", absorbed);
        reached("full caches", fullCaches);
        reached("crashes with losses", lossyCrashes);
        for (int p = 0; p <= 4; p++) {
            reached("requests served under policy " + p, servedUnder[p]);
        }
        checks.finish();
    }

    private static void reached(String what, int times) {
        checks.due(what + " were reached", 1, times >= 100 ? 1 : 0);
    }

    /** Runs differ in how many blocks they use, and in how much time goes on between other calls. */
    private static void oneRun(int run) {
        Random random = new Random(run);
        BlockLayer x = new BlockLayer();
        PlainModel model = new PlainModel();
        int span = new int[] {12, 24, 60, 256}[random.nextInt(4)];
        int haste = random.nextInt(12);
        for (int i = 0; i < CALLS; i++) {
            oneCall("run " + run + " call " + i, random, x, model, span, haste);
        }
        absorbed += model.told(9);
    }

    private static int someBlock(Random random, int span) {
        if (random.nextInt(60) == 0) {
            return new int[] {-1, 256, Integer.MIN_VALUE, Integer.MAX_VALUE, 0, 255}[random.nextInt(6)];
        }
        return random.nextInt(span) * (256 / span);
    }

    private static void oneCall(String at, Random random, BlockLayer x, PlainModel model, int span, int haste) {
        int block = someBlock(random, span);
        int small = random.nextInt(14) - 1;
        int kind = random.nextInt(100);
        if (kind < 30) {
            int v = random.nextInt(4);
            same(at + " save(" + block + ", " + v + ")", () -> x.save(block, v), () -> model.save(block, v));
        } else if (kind < 37 && random.nextInt(12) >= haste) {
            same(at + " load(" + block + ")", () -> x.load(block), () -> model.load(block));
        } else if (kind >= 37 && kind < 41) {
            same(at + " sync()", x::sync, model::sync);
        } else if (kind >= 41 && kind < 53) {
            int n = random.nextInt(20) == 0 ? random.nextInt(1100) - 50 : 1 + random.nextInt(13 - haste);
            int before = model.told(10);
            same(at + " step(" + n + ")", () -> x.step(n), () -> model.step(n));
            servedUnder[policyOf(model)] += model.told(10) - before;
            fullCaches += model.told(4) == 6 ? 1 : 0;
        } else if (kind == 53 && random.nextInt(12) >= haste) {
            same(at + " drain()", x::drain, model::drain);
        } else if (kind >= 54 && kind < 57) {
            int p = random.nextInt(7) - 1;
            same(at + " policy(" + p + ")", () -> x.policy(p), () -> model.policy(p));
        } else if (kind == 57 && random.nextInt(6) == 0) {
            String lost = same(at + " crash()", x::crash, model::crash);
            lossyCrashes += lost.equals("0") ? 0 : 1;
        } else {
            oneLook(at, random, x, model, block, small);
        }
    }

    private static int policyOf(PlainModel model) {
        int p = model.policy(0);
        model.policy(p);
        return p;
    }

    private static void oneLook(String at, Random random, BlockLayer x, PlainModel model, int block, int small) {
        switch (random.nextInt(7)) {
            case 0:
                same(at + " newest(" + block + ")", () -> x.newest(block), () -> model.newest(block));
                break;
            case 1:
                same(at + " media(" + block + ")", () -> x.media(block), () -> model.media(block));
                break;
            case 2:
                same(at + " buffer(" + block + ")", () -> x.buffer(block), () -> model.buffer(block));
                break;
            case 3:
                same(at + " used(" + small + ")", () -> x.used(small), () -> model.used(small));
                break;
            case 4:
                int place = random.nextInt(42) - 1;
                same(at + " queued(" + place + ")", () -> x.queued(place), () -> model.queued(place));
                break;
            case 5:
                int number = random.nextBoolean() ? model.told(2) : model.queued(random.nextInt(20)) + random.nextInt(2);
                int what = random.nextInt(6) - 1;
                same(at + " request(" + number + ", " + what + ")",
                    () -> x.request(number, what), () -> model.request(number, what));
                break;
            default:
                same(at + " told(" + small + ")", () -> x.told(small), () -> model.told(small));
                break;
        }
    }

    private static String methodOf(String what) {
        int end = what.indexOf('(');
        return what.substring(what.lastIndexOf(' ', end) + 1, end);
    }

    private static String same(String what, Checks.Call call, Checks.Call due) {
        String answer = Checks.answerOf(due);
        compared++;
        callsOf.merge(methodOf(what), 1, Integer::sum);
        checks.due(what, answer, Checks.answerOf(call));
        if (answer.equals("throws.UnsupportedOperationException")) {
            refusedByQueue++;
        }
        return answer;
    }
}
