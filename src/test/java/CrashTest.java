/** Promise 8. */
final class CrashTest {
    private static final Checks checks = new Checks();

    public static void main(String[] args) {
        countsWhatIsLost();
        sameValueIsNoLoss();
        theNewestOfManyCountsOnce();
        whileIdle();
        whileIdleWithWaiting();
        rightAfterALoad();
        whileAWriteIsServed();
        whileABarrierIsServed();
        whileABarrierIsAboutToEnd();
        rightAfterABarrier();
        if (Reads.canBeMade()) {
            whileAReadIsServed();
        }
        whatStays();
        numbersGoOn();
        checks.finish();
    }

    /** 16 on the media, 8 in the cache, 80 served, 200 in the queue, ten other dirty buffers; time 10. */
    private static BlockLayer inAllPlaces() {
        BlockLayer x = new BlockLayer();
        x.policy(0);
        Layers.saveAll(x, 16);
        x.sync();
        x.drain();
        Layers.saveAll(x, 8, 80, 200);
        Layers.pushOut(x);
        x.step(4);
        return x;
    }

    private static void countsWhatIsLost() {
        BlockLayer x = inAllPlaces();
        checks.due("cache", 1, x.told(4));
        checks.due("served", 3, x.told(2));
        checks.due("queue", "4", Layers.queuedNumbers(x));
        checks.due("crash()", 13, x.crash());
        for (int block : new int[] {8, 80, 200, 150, 159}) {
            checks.due("newest(" + block + ")", 0, x.newest(block));
        }
        checks.due("newest(16)", 1016, x.newest(16));
        checks.due("crash() again", 0, x.crash());
    }

    private static void sameValueIsNoLoss() {
        BlockLayer x = new BlockLayer();
        x.save(8, 0);
        x.save(255, 1);
        x.save(0, 1);
        checks.due("crash()", 2, x.crash());
        BlockLayer y = new BlockLayer();
        y.save(8, 5);
        y.sync();
        y.drain();
        y.save(8, 6);
        y.save(8, 5);
        checks.due("crash() with the old value again", 0, y.crash());
        checks.due("newest(8)", 5, y.newest(8));
    }

    private static void theNewestOfManyCountsOnce() {
        BlockLayer x = new BlockLayer();
        x.save(8, 5);
        x.sync();
        x.save(8, 6);
        x.sync();
        x.save(8, 7);
        checks.due("crash()", 1, x.crash());
        BlockLayer y = new BlockLayer();
        y.save(8, 5);
        y.sync();
        y.save(8, 0);
        checks.due("crash() with 5 in the queue, 0 newest", 0, y.crash());
    }

    /** Nothing that was begun before the crash has any effect on this READ of block 0. */
    private static void nextLoadIsAsTheFirst(BlockLayer x) {
        int time = x.told(0);
        int served = x.told(10);
        checks.due("idle", -1, x.told(2));
        checks.due("the head", 0, x.told(1));
        checks.due("load(0)", x.media(0), x.load(0));
        checks.due("its units", 2, x.told(0) - time);
        checks.due("it alone was served", 1, x.told(10) - served);
    }

    private static void whileIdle() {
        BlockLayer x = Layers.withWrites(80);
        x.drain();
        checks.due("idle", -1, x.told(2));
        checks.due("one in the cache, ten buffers", 11, x.crash());
        checks.due("cache", 0, x.told(4));
        checks.due("newest(80)", 0, x.newest(80));
        nextLoadIsAsTheFirst(x);
    }

    private static void whileIdleWithWaiting() {
        BlockLayer x = Layers.withWrites(80, 255);
        checks.due("idle before time goes on", -1, x.told(2));
        checks.due("two in the queue, ten buffers", 12, x.crash());
        checks.due("queue", 0, x.told(3));
        checks.due("drain()", 0, x.drain());
        nextLoadIsAsTheFirst(x);
    }

    /** The face never leaves a READ at the disk: load() has just ended, and so has its READ. */
    private static void rightAfterALoad() {
        BlockLayer x = new BlockLayer();
        x.load(80);
        checks.due("idle", -1, x.told(2));
        checks.due("crash()", 0, x.crash());
        checks.due("buffer(80)", 0, x.buffer(80));
        nextLoadIsAsTheFirst(x);
    }

    private static void whileAReadIsServed() {
        BlockLayer x = new BlockLayer();
        Layers.saveAll(x, 80);
        x.sync();
        x.drain();
        x.save(81, 5);
        Reads.make(x, 82);
        x.step(1);
        checks.due("the READ is served", 0, x.request(x.told(2), 0));
        checks.due("the buffer alone is lost", 1, x.crash());
        checks.due("media(80)", 1080, x.media(80));
        nextLoadIsAsTheFirst(x);
    }

    private static void whileABarrierIsAboutToEnd() {
        BlockLayer x = new BlockLayer();
        Layers.saveAll(x, 0, 1);
        x.sync();
        x.step(6);
        checks.due("the barrier has one unit to go", 2, x.told(2));
        checks.due("crash()", 2, x.crash());
        checks.due("media(0)", 0, x.media(0));
        checks.due("cache", 0, x.told(4));
        nextLoadIsAsTheFirst(x);
    }

    private static void rightAfterABarrier() {
        BlockLayer x = new BlockLayer();
        Layers.saveAll(x, 0, 1);
        x.sync();
        x.step(7);
        checks.due("the barrier has ended", -1, x.told(2));
        checks.due("crash()", 0, x.crash());
        checks.due("media(0)", 1000, x.media(0));
        nextLoadIsAsTheFirst(x);
    }

    private static void whileAWriteIsServed() {
        BlockLayer x = Layers.withWrites(255);
        x.step(32);
        checks.due("served", 0, x.told(2));
        checks.due("crash()", 11, x.crash());
        checks.due("served", -1, x.told(2));
        checks.due("the head", 0, x.told(1));
        checks.due("request(0, 0)", -1, x.request(0, 0));
        x.step(50);
        checks.due("it never ends", 0, x.told(10));
        checks.due("media(255)", 0, x.media(255));
        checks.due("cache", 0, x.told(4));
        checks.due("idle units", 50, x.told(11));
        checks.due("load(0) begins at once", 0, x.load(0));
        checks.due("its time", 84, x.told(0));
    }

    private static void whileABarrierIsServed() {
        BlockLayer x = new BlockLayer();
        Layers.saveAll(x, 0, 1);
        x.sync();
        x.step(5);
        checks.due("the barrier is served", 2, x.told(2));
        checks.due("crash()", 2, x.crash());
        checks.due("newest(0)", 0, x.newest(0));
        checks.due("drain()", 0, x.drain());
        nextLoadIsAsTheFirst(x);
    }

    private static void whatStays() {
        BlockLayer x = inAllPlaces();
        x.load(150);
        int[] before = new int[12];
        for (int what = 0; what <= 11; what++) {
            before[what] = x.told(what);
        }
        x.crash();
        for (int what = 0; what <= 11; what++) {
            boolean lost = what >= 1 && what <= 5;
            int due = lost ? (what == 2 ? -1 : 0) : before[what];
            checks.due("told(" + what + ")", due, x.told(what));
        }
        checks.due("used(0)", -1, x.used(0));
        checks.due("queued(0)", -1, x.queued(0));
        checks.due("media(16)", 1016, x.media(16));
        checks.due("the policy", 0, x.policy(1));
    }

    private static void numbersGoOn() {
        BlockLayer x = Layers.withBarriers(3);
        x.crash();
        x.sync();
        checks.due("queue", "3", Layers.queuedNumbers(x));
        checks.due("request(2, 0)", -1, x.request(2, 0));
        checks.due("request(3, 0)", 2, x.request(3, 0));
    }
}
