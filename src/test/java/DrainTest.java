/** Promise 6. */
final class DrainTest {
    private static final Checks checks = new Checks();

    public static void main(String[] args) {
        nothingToDo();
        queueAndBarrier();
        inTheMidst();
        onlyTheServed();
        fullQueue();
        fullQueueBehindTheServed();
        checks.finish();
    }

    private static void nothingToDo() {
        BlockLayer x = new BlockLayer();
        x.save(8, 1);
        checks.due("drain() with a dirty buffer alone", 0, x.drain());
        checks.due("time", 0, x.told(0));
        checks.due("buffer(8)", 2, x.buffer(8));
    }

    private static void queueAndBarrier() {
        BlockLayer x = new BlockLayer();
        Layers.saveAll(x, 8, 80);
        x.sync();
        checks.due("3 + 11 + 3", 17, x.drain());
        checks.due("time", 17, x.told(0));
        checks.due("queue", 0, x.told(3));
        checks.due("served", 3, x.told(10));
        checks.due("idle units", 0, x.told(11));
        checks.due("drain() again", 0, x.drain());
    }

    private static void inTheMidst() {
        BlockLayer x = new BlockLayer();
        x.step(7);
        Layers.saveAll(x, 8, 80);
        x.sync();
        x.step(5);
        checks.due("what is left of 17", 12, x.drain());
        checks.due("time", 24, x.told(0));
    }

    private static void onlyTheServed() {
        BlockLayer x = Layers.withWrites(255);
        x.step(1);
        checks.due("queue", 0, x.told(3));
        checks.due("what is left of 33", 32, x.drain());
        checks.due("idle", -1, x.told(2));
        checks.due("cache", 1, x.told(4));
    }

    private static void fullQueue() {
        BlockLayer x = Layers.withBarriers(40);
        checks.due("40 barriers", 40, x.drain());
    }

    private static void fullQueueBehindTheServed() {
        BlockLayer x = new BlockLayer();
        x.save(255, 1);
        x.sync();
        x.step(1);
        for (int i = 0; i < 37; i++) {
            x.sync();
        }
        x.save(255, 2);
        x.sync();
        checks.due("40 wait", 40, x.told(3));
        checks.due("one is served", 0, x.told(2));
        checks.due("32 are left, barriers take 2 and 37, a WRITE 2, a barrier 2", 75, x.drain());
        checks.due("served", 41, x.told(10));
        checks.due("media(255)", 2, x.media(255));
    }
}
