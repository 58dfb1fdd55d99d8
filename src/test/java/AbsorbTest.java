/** What a WRITE finds before it in the queue, and whether it is absorbed. */
final class AbsorbTest {
    private static final Checks checks = new Checks();

    public static void main(String[] args) {
        behindNothing();
        behindAWriteOfItsBlock();
        behindAWriteOfAnotherBlock();
        behindAWriteNotTheLastInTheQueue();
        againAndAgain();
        behindABarrier();
        behindABarrierAndAWrite();
        behindAServedBarrier();
        behindAServedWrite();
        behindAnEndedWrite();
        behindAnEndedRead();
        bySyncAndByEviction();
        noNumberForTheAbsorbed();
        if (Reads.canBeMade()) {
            behindARead();
            behindAWriteAndARead();
            behindAReadAndAWrite();
            behindAReadOfAnotherBlock();
        }
        checks.finish();
    }

    private static void behindNothing() {
        BlockLayer x = new BlockLayer();
        x.save(8, 1);
        x.sync();
        checks.due("absorbed", 0, x.told(9));
        checks.due("queue", "0 1", Layers.queuedNumbers(x));
    }

    /** A WRITE of this block, a WRITE of each other dirty buffer, and a barrier. */
    private static void write(BlockLayer x, int block, int value) {
        x.save(block, value);
        x.sync();
    }

    private static void behindAWriteOfItsBlock() {
        BlockLayer x = Layers.withWrites(0, 8);
        x.step(1);
        checks.due("0 is served", 0, x.told(2));
        x.save(8, 7);
        checks.due("before the WRITE is made", 1008, x.request(1, 2));
        x.sync();
        checks.due("absorbed", 1, x.told(9));
        checks.due("the value", 7, x.request(1, 2));
        checks.due("kind", 1, x.request(1, 0));
        checks.due("block", 8, x.request(1, 1));
        checks.due("made", 0, x.request(1, 3));
        checks.due("buffer(8)", 1, x.buffer(8));
        x.drain();
        checks.due("media(8)", 7, x.media(8));
    }

    private static void behindAWriteOfAnotherBlock() {
        BlockLayer x = Layers.withWrites(8);
        write(x, 9, 7);
        checks.due("absorbed", 0, x.told(9));
        checks.due("the WRITE of 8", 1008, x.request(0, 2));
        checks.due("the first of the sync's", 9, x.request(2, 1));
        checks.due("its value", 7, x.request(2, 2));
    }

    private static void behindAWriteNotTheLastInTheQueue() {
        BlockLayer x = Layers.withWrites(8, 16, 24);
        x.save(8, 7);
        x.sync();
        checks.due("absorbed", 1, x.told(9));
        checks.due("the value", 7, x.request(0, 2));
        checks.due("its place is the same", 0, x.queued(0));
    }

    private static void againAndAgain() {
        BlockLayer x = Layers.withWrites(8);
        for (int i = 1; i <= 3; i++) {
            x.save(8, i);
            for (int k = 0; k < 10; k++) {
                x.save(i * 20 + k, 1);
            }
            checks.due("absorbed", i, x.told(9));
            checks.due("the value", i, x.request(0, 2));
        }
    }

    private static void behindABarrier() {
        BlockLayer x = new BlockLayer();
        write(x, 8, 1);
        write(x, 8, 2);
        checks.due("absorbed", 0, x.told(9));
        checks.due("queue", "0 1 2 3", Layers.queuedNumbers(x));
        checks.due("the WRITE before the barrier", 1, x.request(0, 2));
        checks.due("the WRITE behind it", 2, x.request(2, 2));
        x.step(5);
        checks.due("media(8) after the first barrier", 1, x.media(8));
        x.drain();
        checks.due("media(8) after the second", 2, x.media(8));
    }

    /** The queue: WRITE 0 and barrier 1, and behind it WRITE 2, all of block 8; then one WRITE more by eviction. */
    private static void behindABarrierAndAWrite() {
        BlockLayer x = new BlockLayer();
        write(x, 8, 1);
        x.save(8, 2);
        Layers.pushOut(x);
        checks.due("queue", "0 1 2", Layers.queuedNumbers(x));
        x.save(8, 3);
        x.sync();
        checks.due("absorbed", 1, x.told(9));
        checks.due("the WRITE before the barrier", 1, x.request(0, 2));
        checks.due("the WRITE behind it", 3, x.request(2, 2));
    }

    /** A barrier that is served is in the queue no more; the WRITE behind it takes in another one. */
    private static void behindAServedBarrier() {
        BlockLayer x = new BlockLayer();
        Layers.saveAll(x, 0, 1, 2);
        x.sync();
        x.save(0, 5);
        Layers.pushOut(x);
        x.step(7);
        checks.due("the barrier is served", 3, x.told(2));
        checks.due("queue", "4", Layers.queuedNumbers(x));
        x.save(0, 9);
        x.sync();
        checks.due("absorbed", 1, x.told(9));
        checks.due("the value", 9, x.request(4, 2));
    }

    private static void behindAServedWrite() {
        BlockLayer x = Layers.withWrites(255);
        x.step(32);
        checks.due("served", 0, x.told(2));
        x.save(255, 7);
        x.sync();
        checks.due("absorbed", 0, x.told(9));
        checks.due("the served one's value", 1255, x.request(0, 2));
        x.step(1);
        checks.due("it ends with its own value", 1, x.told(4));
        checks.due("newest(255) is the later one", 7, x.newest(255));
        x.drain();
        checks.due("media(255)", 7, x.media(255));
    }

    private static void behindAnEndedWrite() {
        BlockLayer x = Layers.withWrites(0);
        x.step(2);
        checks.due("ended", 1, x.told(10));
        x.save(0, 7);
        x.sync();
        checks.due("absorbed", 0, x.told(9));
        checks.due("the first of the sync's", 0, x.request(2, 1));
    }

    private static void behindAnEndedRead() {
        BlockLayer x = new BlockLayer();
        x.load(8);
        checks.due("the READ is at the disk no more", -1, x.told(2));
        checks.due("nor in the queue", -1, x.queued(0));
        write(x, 8, 7);
        checks.due("absorbed", 0, x.told(9));
        checks.due("queue", "1 2", Layers.queuedNumbers(x));
    }

    private static void bySyncAndByEviction() {
        BlockLayer x = Layers.withWrites(8);
        x.save(8, 2);
        Layers.saveAll(x, 100, 101, 102, 103, 104, 105, 106, 107, 108);
        checks.due("block 8 is the first used", 8, x.used(0));
        x.load(8);
        x.sync();
        checks.due("by sync()", 1, x.told(9));
        BlockLayer y = Layers.withWrites(8);
        y.save(8, 2);
        Layers.saveAll(y, 100, 101, 102, 103, 104, 105, 106, 107, 108);
        int requests = y.told(3);
        y.save(109, 1);
        checks.due("by an eviction", 1, y.told(9));
        checks.due("evictions", 12, y.told(8));
        checks.due("no request more", requests, y.told(3));
        checks.due("buffer(8)", 0, y.buffer(8));
        checks.due("newest(8)", 2, y.newest(8));
    }

    private static void noNumberForTheAbsorbed() {
        BlockLayer x = Layers.withWrites(8, 9);
        x.save(8, 7);
        x.save(9, 7);
        checks.due("sync()", 10, x.sync());
        checks.due("two were absorbed", 2, x.told(9));
        // 150 and 151 went when 8 and 9 came; 152 .. 159 are the sync's.
        checks.due("queue", "0 1 2 3 4 5 6 7 8 9 10 11 12", Layers.queuedNumbers(x));
        checks.due("the last one is the barrier", 2, x.request(12, 0));
    }

    private static void behindARead() {
        BlockLayer x = new BlockLayer();
        Reads.make(x, 8);
        write(x, 8, 7);
        checks.due("absorbed", 0, x.told(9));
        checks.due("queue", "0 1 2", Layers.queuedNumbers(x));
        checks.due("the READ's kind", 0, x.request(0, 0));
        checks.due("the READ's block", 8, x.request(0, 1));
        checks.due("the READ's value", 0, x.request(0, 2));
        checks.due("the WRITE's kind", 1, x.request(1, 0));
        checks.due("the WRITE's value", 7, x.request(1, 2));
        checks.due("the READ is served first", "0 1 2", Layers.servedInOrder(x));
    }

    /** The last request of the block counts, not any WRITE of it. */
    private static void behindAWriteAndARead() {
        BlockLayer x = Layers.withWrites(8);
        Reads.make(x, 8);
        x.save(8, 7);
        x.sync();
        checks.due("absorbed", 0, x.told(9));
        checks.due("the WRITE before the READ", 1008, x.request(0, 2));
        checks.due("the READ", 0, x.request(1, 0));
        checks.due("the sync's first", 8, x.request(3, 1));
        checks.due("its value", 7, x.request(3, 2));
    }

    private static void behindAReadAndAWrite() {
        BlockLayer x = new BlockLayer();
        Reads.make(x, 8);
        x.save(8, 1);
        Layers.pushOut(x);
        checks.due("queue", "0 1", Layers.queuedNumbers(x));
        x.save(8, 7);
        x.sync();
        checks.due("absorbed", 1, x.told(9));
        checks.due("the WRITE behind the READ", 7, x.request(1, 2));
        checks.due("the READ's value", 0, x.request(0, 2));
    }

    private static void behindAReadOfAnotherBlock() {
        BlockLayer x = Layers.withWrites(8);
        Reads.make(x, 9);
        x.save(8, 7);
        x.sync();
        checks.due("absorbed", 1, x.told(9));
        checks.due("the value", 7, x.request(0, 2));
    }
}
