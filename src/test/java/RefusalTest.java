import java.util.ArrayList;
import java.util.LinkedHashMap;
import java.util.List;
import java.util.Map;
import java.util.function.Function;
import java.util.function.Supplier;

/**
 * A call that throws changes nothing. Each call that is refused is made on an object in each of several states, and
 * then every other method is asked, and its answers are compared with those of a twin on which it was not made.
 * Each question has objects of its own, since one object takes 512 calls at most.
 */
final class RefusalTest {
    private static final Checks checks = new Checks();

    private static final Map<String, Supplier<BlockLayer>> states = new LinkedHashMap<>();
    private static final Map<String, Function<BlockLayer, String>> questions = new LinkedHashMap<>();

    public static void main(String[] args) {
        nameStates();
        nameQuestions();
        for (String state : states.keySet()) {
            wrongArguments(state);
        }
        for (String state : new String[] {"crowded", "crowded while a WRITE is served"}) {
            noRoom(state, 10);
        }
        noRoom("39 barriers and a clean buffer", 1);
        noRoom("40 barriers", 0);
        checks.finish();
    }

    private static void nameStates() {
        states.put("new", BlockLayer::new);
        states.put("idle with buffers", RefusalTest::idleWithBuffers);
        states.put("a WRITE is served", RefusalTest::servesWrite);
        states.put("a barrier is served", RefusalTest::servesBarrier);
        states.put("crowded", () -> crowded(39));
        states.put("crowded while a WRITE is served", RefusalTest::crowdedBehindTheServed);
        states.put("39 barriers and a clean buffer", RefusalTest::barriersAndCleanBuffer);
        states.put("40 barriers", () -> Layers.withBarriers(40));
    }

    /** Clean and dirty ones, some blocks in the cache and on the media, the head going down. */
    private static BlockLayer idleWithBuffers() {
        BlockLayer x = new BlockLayer();
        x.policy(2);
        Layers.saveAll(x, 0, 255);
        x.sync();
        x.drain();
        x.load(80);
        x.save(80, 5);
        x.save(0, 6);
        return x;
    }

    private static BlockLayer servesWrite() {
        BlockLayer x = Layers.withWrites(8, 80, 200);
        x.policy(2);
        x.step(5);
        return x;
    }

    private static BlockLayer servesBarrier() {
        BlockLayer x = new BlockLayer();
        x.policy(4);
        Layers.saveAll(x, 0, 1, 2, 3);
        x.sync();
        Layers.saveAll(x, 0, 100);
        x.sync();
        x.step(10);
        return x;
    }

    /** So many WRITEs in the queue, and ten dirty buffers. */
    private static BlockLayer crowded(int waiting) {
        BlockLayer x = new BlockLayer();
        x.policy(1);
        for (int i = 0; i < waiting + 10; i++) {
            x.save(i * 5, 1000 + i);
        }
        return x;
    }

    private static BlockLayer crowdedBehindTheServed() {
        BlockLayer x = crowded(39);
        x.step(1);
        x.save(1, 1);
        return x;
    }

    private static BlockLayer barriersAndCleanBuffer() {
        BlockLayer x = new BlockLayer();
        x.load(240);
        for (int i = 0; i < 39; i++) {
            x.sync();
        }
        return x;
    }

    private static void nameQuestions() {
        questions.put("told, used, queued, request", Layers::look);
        questions.put("newest", x -> ofAllBlocks(x::newest));
        questions.put("media", x -> ofAllBlocks(x::media));
        questions.put("buffer", x -> ofAllBlocks(x::buffer));
        questions.put("policy", x -> Checks.answerOf(() -> x.policy(0)));
        questions.put("load of no buffer", x -> thenAll(x, Checks.answerOf(() -> x.load(254))));
        questions.put("load of a buffer", x -> thenAll(x, Checks.answerOf(() -> x.load(240))));
        questions.put("save of no buffer", x -> thenAll(x, Checks.answerOf(() -> x.save(254, 1))));
        questions.put("save of a buffer", x -> thenAll(x, Checks.answerOf(() -> x.save(240, 1))));
        questions.put("sync", x -> thenAll(x, Checks.answerOf(x::sync)));
        questions.put("step(1)", x -> thenAll(x, Checks.answerOf(() -> x.step(1))));
        questions.put("step(1000)", x -> thenAll(x, Checks.answerOf(() -> x.step(1000))));
        questions.put("drain", x -> thenAll(x, Checks.answerOf(x::drain)));
        questions.put("crash", x -> thenAll(x, Checks.answerOf(x::crash)));
        questions.put("the order of service", Layers::servedInOrder);
        questions.put("the next number and the way", RefusalTest::nextNumberAndWay);
    }

    private static String thenAll(BlockLayer x, String answer) {
        return answer + Layers.look(x);
    }

    private static String ofAllBlocks(Function<Integer, Integer> call) {
        StringBuilder text = new StringBuilder();
        for (int block = 0; block <= 255; block++) {
            text.append(' ').append(call.apply(block));
        }
        return text.toString();
    }

    /** Under policy 2 the head shows which way it goes, from where all that waited has brought it. */
    private static String nextNumberAndWay(BlockLayer x) {
        x.drain();
        x.policy(2);
        Layers.saveAll(x, 0, 64, 128, 192, 248);
        x.sync();
        return Layers.queuedNumbers(x) + ": " + Layers.servedInOrder(x);
    }

    private static void wrongArguments(String state) {
        for (int block : new int[] {-1, 256}) {
            afterRefusal(state, "load(" + block + ")", IndexOutOfBoundsException.class, x -> x.load(block));
            afterRefusal(state, "save(" + block + ", 1)", IndexOutOfBoundsException.class, x -> x.save(block, 1));
            afterRefusal(state, "newest(" + block + ")", IndexOutOfBoundsException.class, x -> x.newest(block));
            afterRefusal(state, "media(" + block + ")", IndexOutOfBoundsException.class, x -> x.media(block));
            afterRefusal(state, "buffer(" + block + ")", IndexOutOfBoundsException.class, x -> x.buffer(block));
        }
        for (int n : new int[] {0, 1001}) {
            afterRefusal(state, "step(" + n + ")", IllegalArgumentException.class, x -> x.step(n));
        }
        for (int p : new int[] {-1, 5}) {
            afterRefusal(state, "policy(" + p + ")", IllegalArgumentException.class, x -> x.policy(p));
        }
    }

    private static void noRoom(String state, int buffers) {
        checks.due(state + ": buffers", buffers, states.get(state).get().told(5));
        List<Integer> blocks = new ArrayList<>(List.of(254));
        if (buffers > 0) {
            blocks.add(240);
            checks.due(state + ": block 240 has a buffer", 1, Math.min(1, states.get(state).get().buffer(240)));
        }
        for (int block : blocks) {
            afterRefusal(state, "load(" + block + ")", UnsupportedOperationException.class, x -> x.load(block));
            afterRefusal(state, "save(" + block + ", 1)", UnsupportedOperationException.class, x -> x.save(block, 1));
        }
        afterRefusal(state, "sync()", UnsupportedOperationException.class, BlockLayer::sync);
    }

    private static void afterRefusal(String state, String name, Class<? extends RuntimeException> due,
            Function<BlockLayer, Integer> refused) {
        for (String question : questions.keySet()) {
            BlockLayer x = states.get(state).get();
            checks.refused(state + ": " + name, due, () -> refused.apply(x));
            BlockLayer twin = states.get(state).get();
            checks.due(state + ": " + question + " after " + name,
                questions.get(question).apply(twin), questions.get(question).apply(x));
        }
    }
}
