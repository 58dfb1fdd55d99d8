/** Promise 4, and what the document says of absorbed requests. */
final class SyncTest {
    private static final Checks checks = new Checks();

    public static void main(String[] args) {
        writesByBlocksThenBarrier();
        cleanBuffersAreNotWritten();
        nothingDirty();
        absorbed();
        notAbsorbedOverBarrier();
        notAbsorbedByTheServed();
        absorbedByEviction();
        fullQueue();
        checks.finish();
    }

    private static void writesByBlocksThenBarrier() {
        BlockLayer x = new BlockLayer();
        Layers.saveAll(x, 200, 3, 255, 0, 77);
        checks.due("sync()", 5, x.sync());
        int[] blocks = {0, 3, 77, 200, 255};
        for (int i = 0; i < 5; i++) {
            checks.due("kind of " + i, 1, x.request(i, 0));
            checks.due("block of " + i, blocks[i], x.request(i, 1));
            checks.due("value of " + i, 1000 + blocks[i], x.request(i, 2));
            checks.due("buffer of " + blocks[i], 1, x.buffer(blocks[i]));
        }
        checks.due("kind of 5", 2, x.request(5, 0));
        checks.due("queue", "0 1 2 3 4 5", Layers.queuedNumbers(x));
        checks.due("buffers are not used by it", "200 3 255 0 77", Layers.usedBlocks(x));
        checks.due("no time", 0, x.told(0));
    }

    private static void cleanBuffersAreNotWritten() {
        BlockLayer x = new BlockLayer();
        x.load(1);
        x.save(2, 2);
        x.load(3);
        checks.due("sync()", 1, x.sync());
        checks.due("queue", "2 3", Layers.queuedNumbers(x));
        checks.due("block", 2, x.request(2, 1));
        checks.due("sync() again", 0, x.sync());
        checks.due("queue", "2 3 4", Layers.queuedNumbers(x));
    }

    private static void nothingDirty() {
        BlockLayer x = new BlockLayer();
        checks.due("sync()", 0, x.sync());
        checks.due("a barrier", 2, x.request(0, 0));
        checks.due("one request", 1, x.told(3));
    }

    private static void absorbed() {
        BlockLayer x = Layers.withWrites(255, 8);
        x.policy(0);
        x.step(5);
        x.save(8, 2);
        checks.due("sync()", 10, x.sync());
        checks.due("absorbed", 1, x.told(9));
        checks.due("the WRITE has the value", 2, x.request(1, 2));
        checks.due("and its own time", 0, x.request(1, 3));
        checks.due("no number is lost", "1 2 3 4 5 6 7 8 9 10 11 12", Layers.queuedNumbers(x));
        checks.due("buffer(8)", 1, x.buffer(8));
        x.drain();
        checks.due("media(8)", 2, x.media(8));
    }

    private static void notAbsorbedOverBarrier() {
        BlockLayer x = new BlockLayer();
        x.save(8, 1);
        x.sync();
        x.save(8, 2);
        checks.due("sync()", 1, x.sync());
        checks.due("absorbed", 0, x.told(9));
        checks.due("queue", "0 1 2 3", Layers.queuedNumbers(x));
        checks.due("the first WRITE", 1, x.request(0, 2));
        checks.due("the second", 2, x.request(2, 2));
    }

    private static void notAbsorbedByTheServed() {
        BlockLayer x = Layers.withWrites(255);
        x.step(5);
        checks.due("served", 0, x.told(2));
        x.save(255, 7);
        x.sync();
        checks.due("absorbed", 0, x.told(9));
        checks.due("the served one's value", 1255, x.request(0, 2));
        checks.due("newest(255)", 7, x.newest(255));
    }

    private static void absorbedByEviction() {
        BlockLayer x = Layers.withWrites(8);
        x.save(8, 2);
        Layers.saveAll(x, 100, 101, 102, 103, 104, 105, 106, 107, 108, 109);
        checks.due("absorbed", 1, x.told(9));
        checks.due("evictions", 12, x.told(8));
        checks.due("requests", 11, x.told(3));
        checks.due("the value", 2, x.request(0, 2));
    }

    private static void fullQueue() {
        BlockLayer x = Layers.withBarriers(39);
        checks.due("sync() behind 39, no buffers", 0, x.sync());
        checks.due("40 requests", 40, x.told(3));
        checks.refused("sync() behind 40", UnsupportedOperationException.class, x::sync);

        BlockLayer y = Layers.withBarriers(36);
        Layers.saveAll(y, 1, 2, 3);
        checks.due("sync() behind 36 with 3 buffers", 3, y.sync());
        checks.due("40 requests", 40, y.told(3));

        BlockLayer z = Layers.withBarriers(36);
        Layers.saveAll(z, 1, 2, 3, 4);
        checks.refused("sync() behind 36 with 4 buffers", UnsupportedOperationException.class, z::sync);

        BlockLayer clean = new BlockLayer();
        clean.load(1);
        for (int i = 0; i < 39; i++) {
            clean.sync();
        }
        checks.refused("clean buffers count too", UnsupportedOperationException.class, clean::sync);
    }
}
