/** Full: a queue with just the room that load, save and sync may need, and one with room for one less. */
final class FortyQueuedTest {
    private static final Checks checks = new Checks();

    public static void main(String[] args) {
        loadThatNeedsTwo();
        loadThatNeedsOne();
        loadOfABuffer();
        saveThatNeedsOne();
        saveThatNeedsNone();
        saveOfABuffer();
        syncWithoutBuffers();
        syncWithDirtyBuffers();
        syncWithCleanBuffers();
        syncThatWouldBeAbsorbed();
        theServedDoesNotCount();
        roomComesBack();
        looksNeedNoRoom();
        checks.finish();
    }

    private static void full(String what, Checks.Call call) {
        checks.refused(what, UnsupportedOperationException.class, call);
    }

    /** So many WRITEs in the queue, and ten dirty buffers. */
    private static BlockLayer crowded(int waiting) {
        BlockLayer x = new BlockLayer();
        for (int block = 0; block < waiting + 10; block++) {
            x.save(block, 1000 + block);
        }
        checks.due("queue", waiting, x.told(3));
        return x;
    }

    /** So many barriers in the queue, and then dirty buffers of blocks 0, 1, .. */
    private static BlockLayer withDirty(int waiting, int buffers) {
        BlockLayer x = Layers.withBarriers(waiting);
        for (int block = 0; block < buffers; block++) {
            x.save(block, 1000 + block);
        }
        return x;
    }

    /** Clean buffers of blocks 0, 1, .. and then so many barriers in the queue. */
    private static BlockLayer withClean(int waiting, int buffers) {
        BlockLayer x = new BlockLayer();
        for (int block = 0; block < buffers; block++) {
            x.load(block);
        }
        for (int i = 0; i < waiting; i++) {
            x.sync();
        }
        checks.due("queue", waiting, x.told(3));
        return x;
    }

    private static void loadThatNeedsTwo() {
        BlockLayer x = crowded(38);
        checks.due("load(255) behind 38", 0, x.load(255));
        checks.due("one eviction more", 39, x.told(8));
        x.drain();
        checks.due("38, a WRITE and a READ were served", 40, x.told(10));
        BlockLayer y = crowded(39);
        full("load(255) behind 39", () -> y.load(255));
        checks.due("no eviction more", 39, y.told(8));
    }

    private static void loadThatNeedsOne() {
        BlockLayer x = Layers.withBarriers(38);
        checks.due("load(0) behind 38", 0, x.load(0));
        checks.due("38 barriers of 1, and a READ of 2", 40, x.told(0));
        BlockLayer y = Layers.withBarriers(39);
        full("load(0) behind 39", () -> y.load(0));
        BlockLayer z = Layers.withBarriers(40);
        full("load(0) behind 40", () -> z.load(0));
    }

    private static void loadOfABuffer() {
        BlockLayer x = withDirty(38, 1);
        checks.due("load(0) of a buffer behind 38", 1000, x.load(0));
        BlockLayer y = withClean(39, 1);
        full("load(0) of a buffer behind 39", () -> y.load(0));
        checks.due("no hit", 0, y.told(6));
    }

    private static void saveThatNeedsOne() {
        BlockLayer x = crowded(38);
        checks.due("save(255, 1) behind 38", 0, x.save(255, 1));
        checks.due("a WRITE more", 39, x.told(3));
        full("save(254, 1) behind 39", () -> x.save(254, 1));
        checks.due("none more", 39, x.told(3));
    }

    private static void saveThatNeedsNone() {
        BlockLayer x = Layers.withBarriers(38);
        checks.due("save(0, 1) behind 38", 0, x.save(0, 1));
        BlockLayer y = Layers.withBarriers(39);
        full("save(0, 1) behind 39", () -> y.save(0, 1));
        BlockLayer z = Layers.withBarriers(40);
        full("save(0, 1) behind 40", () -> z.save(0, 1));
    }

    private static void saveOfABuffer() {
        BlockLayer x = withDirty(38, 1);
        checks.due("save(0, 1) of a buffer behind 38", 1000, x.save(0, 1));
        BlockLayer y = withClean(39, 1);
        full("save(0, 1) of a buffer behind 39", () -> y.save(0, 1));
        checks.due("it stays clean", 1, y.buffer(0));
    }

    private static void syncWithoutBuffers() {
        BlockLayer x = Layers.withBarriers(39);
        checks.due("sync() behind 39", 0, x.sync());
        checks.due("queue", 40, x.told(3));
        full("sync() behind 40", x::sync);
        checks.due("queue", 40, x.told(3));
    }

    private static void syncWithDirtyBuffers() {
        for (int buffers : new int[] {2, 9, 10}) {
            BlockLayer x = withDirty(39 - buffers, buffers);
            checks.due("sync() of " + buffers + " with room", buffers, x.sync());
            checks.due("queue", 40, x.told(3));
            checks.due("the last one is the barrier", 2, x.request(39, 0));
            if (buffers > 2) {
                BlockLayer y = withDirty(40 - buffers, buffers);
                full("sync() of " + buffers + " without room", y::sync);
                checks.due("queue", 40 - buffers, y.told(3));
                checks.due("they stay dirty", 2, y.buffer(0));
            }
        }
    }

    /** Clean buffers make no WRITE, but the document counts buffers, not dirty ones. */
    private static void syncWithCleanBuffers() {
        for (int buffers : new int[] {1, 2}) {
            BlockLayer x = withClean(39 - buffers, buffers);
            checks.due("sync() with " + buffers + " clean and room", 0, x.sync());
            checks.due("queue", 40 - buffers, x.told(3));
            full("sync() with " + buffers + " clean, without room", x::sync);
            checks.due("queue", 40 - buffers, x.told(3));
        }
    }

    /** Ten dirty buffers, nine of which have WRITEs that would take them in. */
    private static void syncThatWouldBeAbsorbed() {
        BlockLayer x = crowded(20);
        for (int block = 0; block < 9; block++) {
            x.save(block, 7);
        }
        checks.due("queue", 29, x.told(3));
        checks.due("sync() behind 29", 10, x.sync());
        checks.due("absorbed", 9, x.told(9));
        checks.due("a WRITE and a barrier more", 31, x.told(3));

        BlockLayer y = crowded(20);
        for (int block = 0; block < 10; block++) {
            y.save(block, 7);
        }
        checks.due("queue", 30, y.told(3));
        full("sync() behind 30", y::sync);
        checks.due("absorbed", 0, y.told(9));
    }

    private static void theServedDoesNotCount() {
        BlockLayer x = crowded(39);
        full("save(255, 1) behind 39", () -> x.save(255, 1));
        x.step(1);
        checks.due("one is served", 0, x.told(2));
        checks.due("queue", 38, x.told(3));
        checks.due("save(255, 1) behind 38 and the served", 0, x.save(255, 1));
        full("load(254) behind 39 again", () -> x.load(254));
    }

    private static void roomComesBack() {
        BlockLayer x = crowded(39);
        full("save(255, 1)", () -> x.save(255, 1));
        x.drain();
        checks.due("save(255, 1) after drain()", 0, x.save(255, 1));
        BlockLayer y = Layers.withBarriers(40);
        full("load(0)", () -> y.load(0));
        y.crash();
        checks.due("load(0) after crash()", 0, y.load(0));
        checks.due("its time", 2, y.told(0));
    }

    private static void looksNeedNoRoom() {
        BlockLayer x = Layers.withBarriers(40);
        checks.due("newest(255)", 0, x.newest(255));
        checks.due("media(255)", 0, x.media(255));
        checks.due("buffer(255)", 0, x.buffer(255));
        checks.due("policy(4)", 3, x.policy(4));
        checks.due("step(1)", 1, x.step(1));
        checks.due("drain()", 39, x.drain());
    }
}
