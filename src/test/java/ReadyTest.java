/** What is ready, and how many units the disk takes for it. */
final class ReadyTest {
    private static final Checks checks = new Checks();

    public static void main(String[] args) {
        barrierThatIsFirst();
        barrierBehindAWrite();
        writeBehindABarrier();
        writesBeforeABarrierInAnyOrder();
        barrierBehindABarrier();
        readBehindAWriteOfItsBlock();
        readBeforeAWriteOfAnotherBlock();
        readBehindABarrier();
        unitsUpAndDown();
        unitsOfBarriers();
        nothingBeginsWithoutTime();
        nothingBeginsBeforeTheEnd();
        if (Reads.canBeMade()) {
            allOfOneBlockInTheirOrder();
            servedRead();
        }
        checks.finish();
    }

    private static void barrierThatIsFirst() {
        for (int p = 0; p <= 4; p++) {
            BlockLayer x = new BlockLayer();
            x.policy(p);
            x.sync();
            Layers.saveAll(x, 0);
            x.sync();
            checks.due("policy " + p, 1, x.step(1));
            checks.due("the barrier, not the WRITE of the head's track", "1 2", Layers.queuedNumbers(x));
            checks.due("it took 1", 1, x.told(10));
        }
    }

    private static void barrierBehindAWrite() {
        for (int p = 0; p <= 4; p++) {
            BlockLayer x = new BlockLayer();
            x.policy(p);
            Layers.saveAll(x, 255);
            x.sync();
            x.step(1);
            checks.due("policy " + p + ": the WRITE first", 0, x.told(2));
            x.step(32);
            checks.due("policy " + p + ": its end", -1, x.told(2));
            x.step(1);
            checks.due("policy " + p + ": then the barrier", 1, x.told(2));
        }
    }

    private static void writeBehindABarrier() {
        for (int p = 0; p <= 4; p++) {
            BlockLayer x = new BlockLayer();
            x.policy(p);
            Layers.saveAll(x, 248, 255);
            x.sync();
            Layers.saveAll(x, 0, 7);
            x.sync();
            checks.due("policy " + p, "0 1 2 3 4 5", Layers.servedInOrder(x));
        }
    }

    private static void writesBeforeABarrierInAnyOrder() {
        BlockLayer x = Layers.withWrites(248, 0);
        x.sync();
        x.policy(1);
        x.step(1);
        checks.due("the nearer one overtakes", 1, x.told(2));
    }

    private static void barrierBehindABarrier() {
        BlockLayer x = Layers.withBarriers(3);
        checks.due("step(1)", 1, x.step(1));
        checks.due("one of three", "1 2", Layers.queuedNumbers(x));
        checks.due("step(1)", 2, x.step(1));
        checks.due("two of three", "2", Layers.queuedNumbers(x));
    }

    private static void readBehindAWriteOfItsBlock() {
        for (int p = 0; p <= 4; p++) {
            BlockLayer x = Layers.withWrites(80);
            x.policy(p);
            checks.due("policy " + p + ": load(80)", 1080, x.load(80));
            // 12 for the WRITE, 2 for the READ; policy 0 serves the WRITE of the evicted block 150 between them.
            checks.due("policy " + p + ": its time", p == 0 ? 32 : 14, x.told(0));
        }
    }

    private static void readBeforeAWriteOfAnotherBlock() {
        BlockLayer x = Layers.withWrites(80);
        x.policy(1);
        x.load(0);
        checks.due("2 for the READ", 2, x.told(0));
        checks.due("the WRITEs wait: 80, and 150 that was evicted", "0 1", Layers.queuedNumbers(x));
    }

    private static void readBehindABarrier() {
        BlockLayer x = new BlockLayer();
        x.policy(1);
        Layers.saveAll(x, 80);
        x.sync();
        x.load(0);
        checks.due("12, 2 and 12", 26, x.told(0));
        checks.due("media(80)", 1080, x.media(80));
    }

    private static void unitsUpAndDown() {
        BlockLayer x = new BlockLayer();
        x.load(0);
        checks.due("no track away: 2", 2, x.told(0));
        x.load(8);
        checks.due("a track above: 3", 5, x.told(0));
        x.load(1);
        checks.due("a track below: 3", 8, x.told(0));
        x.load(255);
        checks.due("31 above: 33", 41, x.told(0));
        x.load(2);
        checks.due("31 below: 33", 74, x.told(0));
    }

    /** The head stays where it is, and is not in the count. */
    private static void unitsOfBarriers() {
        BlockLayer x = new BlockLayer();
        x.load(255);
        x.sync();
        checks.due("nothing in the cache: 1", 1, x.drain());
        checks.due("the head", 31, x.told(1));
        Layers.saveAll(x, 253);
        x.sync();
        checks.due("2 for the WRITE, one in the cache: 2", 4, x.drain());
        Layers.saveAll(x, 250, 251, 252, 253, 254);
        x.sync();
        checks.due("10 for WRITEs, five in the cache: 6", 16, x.drain());
        Layers.saveAll(x, 248, 249, 250, 251, 252, 253, 254);
        x.sync();
        checks.due("14 for WRITEs, six in the cache: 7", 21, x.drain());
    }

    private static void nothingBeginsWithoutTime() {
        BlockLayer x = Layers.withWrites(80);
        x.sync();
        x.policy(0);
        checks.due("nothing is served", -1, x.told(2));
        checks.due("the head", 0, x.told(1));
        checks.due("queue", 12, x.told(3));
    }

    private static void nothingBeginsBeforeTheEnd() {
        BlockLayer x = Layers.withWrites(80, 0);
        x.policy(0);
        x.step(12);
        checks.due("0 has ended", 1, x.told(10));
        checks.due("1 waits until time goes on", -1, x.told(2));
        checks.due("the head", 10, x.told(1));
        x.step(1);
        checks.due("1 is served", 1, x.told(2));
        checks.due("the head", 0, x.told(1));
        checks.due("no idle unit", 0, x.told(11));
    }

    private static void allOfOneBlockInTheirOrder() {
        for (int p = 0; p <= 4; p++) {
            BlockLayer x = new BlockLayer();
            x.policy(p);
            Reads.make(x, 80);
            x.save(80, 7);
            Layers.pushOut(x);
            Reads.make(x, 80);
            checks.due("policy " + p + ": newest(80)", 7, x.newest(80));
            checks.due("policy " + p, "0 1 2", Layers.servedInOrder(x));
        }
    }

    private static void servedRead() {
        BlockLayer x = Layers.withWrites(80);
        x.drain();
        Reads.make(x, 0);
        x.step(1);
        int[] due = {0, 0, 0, 12};
        checks.due("served", 1, x.told(2));
        for (int what = 0; what <= 3; what++) {
            checks.due("request(1, " + what + ")", due[what], x.request(1, what));
        }
        x.step(11);
        checks.due("ended after 12", -1, x.told(2));
        checks.due("request(1, 0)", -1, x.request(1, 0));
        checks.due("no buffer", 0, x.buffer(0));
        checks.due("the cache is as before", 1, x.told(4));
        checks.due("media(80)", 0, x.media(80));
    }
}
