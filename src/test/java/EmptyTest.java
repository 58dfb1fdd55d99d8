/** Empty: a new object, and calls that find nothing to do. */
final class EmptyTest {
    private static final Checks checks = new Checks();

    public static void main(String[] args) {
        newObjectTells();
        newObjectHasZeros();
        newObjectHasNoPlaces();
        newObjectsFirstAnswers();
        drainWithNothingToDo();
        drainLeavesBuffersAndCache();
        crashWithNothingToDo();
        crashWithNothingToLose();
        syncWithoutBuffers();
        syncWithCleanBuffers();
        syncAfterSync();
        stepWhileNothingWaits();
        stepLeavesBuffersAndCache();
        checks.finish();
    }

    private static void newObjectTells() {
        BlockLayer x = new BlockLayer();
        int[] due = {0, 0, -1, 0, 0, 0, 0, 0, 0, 0, 0, 0};
        for (int what = 0; what <= 11; what++) {
            checks.due("told(" + what + ") at first", due[what], x.told(what));
        }
    }

    /** Three objects, for one takes 512 calls at most. */
    private static void newObjectHasZeros() {
        BlockLayer x = new BlockLayer();
        BlockLayer y = new BlockLayer();
        BlockLayer z = new BlockLayer();
        for (int block = 0; block <= 255; block++) {
            checks.due("newest(" + block + ") at first", 0, x.newest(block));
            checks.due("media(" + block + ") at first", 0, y.media(block));
            checks.due("buffer(" + block + ") at first", 0, z.buffer(block));
        }
    }

    private static void newObjectHasNoPlaces() {
        BlockLayer x = new BlockLayer();
        for (int i = -1; i <= 41; i++) {
            checks.due("used(" + i + ") at first", -1, x.used(i));
            checks.due("queued(" + i + ") at first", -1, x.queued(i));
        }
        for (int number = -1; number <= 1; number++) {
            for (int what = -1; what <= 4; what++) {
                checks.due("request(" + number + ", " + what + ") at first", -1, x.request(number, what));
            }
        }
    }

    private static void newObjectsFirstAnswers() {
        checks.due("load(0) at first", 0, new BlockLayer().load(0));
        checks.due("load(255) at first", 0, new BlockLayer().load(255));
        checks.due("save(0, 5) at first", 0, new BlockLayer().save(0, 5));
        checks.due("save(255, 5) at first", 0, new BlockLayer().save(255, 5));
        checks.due("sync() at first", 0, new BlockLayer().sync());
        checks.due("step(1) at first", 1, new BlockLayer().step(1));
        checks.due("drain() at first", 0, new BlockLayer().drain());
        checks.due("crash() at first", 0, new BlockLayer().crash());
        for (int p = 0; p <= 4; p++) {
            checks.due("policy(" + p + ") at first", 3, new BlockLayer().policy(p));
        }
        BlockLayer x = new BlockLayer();
        x.sync();
        checks.due("the first request's number", 0, x.queued(0));
    }

    private static void drainWithNothingToDo() {
        BlockLayer x = new BlockLayer();
        checks.due("drain()", 0, x.drain());
        checks.due("all after it", Layers.look(new BlockLayer()), Layers.look(x));
        x.load(80);
        String before = Layers.look(x);
        checks.due("drain() after a load", 0, x.drain());
        checks.due("all after it", before, Layers.look(x));
    }

    private static void drainLeavesBuffersAndCache() {
        BlockLayer x = Layers.withWrites(0, 8);
        checks.due("2 and 3", 5, x.drain());
        String before = Layers.look(x);
        checks.due("drain() with ten dirty buffers and two in the cache", 0, x.drain());
        checks.due("all after it", before, Layers.look(x));
        checks.due("cache", 2, x.told(4));
        checks.due("media(0)", 0, x.media(0));
    }

    private static void crashWithNothingToDo() {
        BlockLayer x = new BlockLayer();
        checks.due("crash()", 0, x.crash());
        checks.due("all after it", Layers.look(new BlockLayer()), Layers.look(x));
        x.step(5);
        String before = Layers.look(x);
        checks.due("crash() while idle", 0, x.crash());
        checks.due("all after it", before, Layers.look(x));
    }

    private static void crashWithNothingToLose() {
        BlockLayer x = new BlockLayer();
        Layers.saveAll(x, 8, 200);
        x.sync();
        x.drain();
        checks.due("buffers", 2, x.told(5));
        checks.due("crash() with all on the media", 0, x.crash());
        checks.due("buffers", 0, x.told(5));
        checks.due("the head", 0, x.told(1));
        checks.due("newest(200)", 1200, x.newest(200));
        checks.due("crash() again", 0, x.crash());
    }

    private static void syncWithoutBuffers() {
        BlockLayer x = new BlockLayer();
        checks.due("sync()", 0, x.sync());
        checks.due("a barrier alone", "0", Layers.queuedNumbers(x));
        checks.due("its kind", 2, x.request(0, 0));
        checks.due("with nothing in the cache it takes 1", 1, x.drain());
        checks.due("served", 1, x.told(10));
    }

    private static void syncWithCleanBuffers() {
        BlockLayer x = new BlockLayer();
        x.load(0);
        x.load(255);
        checks.due("sync()", 0, x.sync());
        checks.due("a barrier alone", "2", Layers.queuedNumbers(x));
        checks.due("its kind", 2, x.request(2, 0));
        checks.due("buffers", "0 255", Layers.usedBlocks(x));
        checks.due("buffer(0)", 1, x.buffer(0));
    }

    private static void syncAfterSync() {
        BlockLayer x = new BlockLayer();
        Layers.saveAll(x, 0, 255);
        checks.due("sync()", 2, x.sync());
        checks.due("sync() with no buffer dirty any more", 0, x.sync());
        checks.due("a barrier more", "0 1 2 3", Layers.queuedNumbers(x));
        checks.due("its kind", 2, x.request(3, 0));
    }

    private static void stepWhileNothingWaits() {
        BlockLayer x = new BlockLayer();
        checks.due("step(1)", 1, x.step(1));
        checks.due("an idle unit", 1, x.told(11));
        x.load(80);
        checks.due("no idle unit in load", 1, x.told(11));
        checks.due("step(1000)", 1013, x.step(1000));
        checks.due("idle units", 1001, x.told(11));
        checks.due("the head stays", 10, x.told(1));
        checks.due("served", 1, x.told(10));
        checks.due("nothing is served", -1, x.told(2));
    }

    private static void stepLeavesBuffersAndCache() {
        BlockLayer x = Layers.withWrites(0);
        x.drain();
        x.step(1000);
        checks.due("cache", 1, x.told(4));
        checks.due("media(0)", 0, x.media(0));
        checks.due("buffers", 10, x.told(5));
        checks.due("they stay dirty", 2, x.buffer(Layers.PUSH));
        checks.due("queue", 0, x.told(3));
    }
}
