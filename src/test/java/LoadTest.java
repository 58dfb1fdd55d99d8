/** Promise 2. */
final class LoadTest {
    private static final Checks checks = new Checks();

    public static void main(String[] args) {
        missThenHit();
        hitOfSavedBlock();
        missEvictsTheFirstUsed();
        missDoesNotWaitForAll();
        missWaitsForBarrier();
        missWaitsForWriteOfItsBlock();
        missWhileDiskServes();
        missFindsMedia();
        wrongBlocks();
        fullQueue();
        lastOfAllThatCanWait();
        checks.finish();
    }

    private static void missThenHit() {
        BlockLayer x = new BlockLayer();
        checks.due("load(255) missed", 0, x.load(255));
        checks.due("its time", 33, x.told(0));
        checks.due("the head", 31, x.told(1));
        checks.due("served", 1, x.told(10));
        checks.due("misses", 1, x.told(7));
        checks.due("hits", 0, x.told(6));
        checks.due("buffer(255)", 1, x.buffer(255));
        checks.due("load(255) hit", 0, x.load(255));
        checks.due("time of a hit", 33, x.told(0));
        checks.due("misses", 1, x.told(7));
        checks.due("hits", 1, x.told(6));
    }

    private static void hitOfSavedBlock() {
        BlockLayer x = new BlockLayer();
        x.save(8, -7);
        x.save(9, 1);
        checks.due("load(8) of a dirty buffer", -7, x.load(8));
        checks.due("it stays dirty", 2, x.buffer(8));
        checks.due("it is used", "9 8", Layers.usedBlocks(x));
        checks.due("no time", 0, x.told(0));
    }

    private static void missEvictsTheFirstUsed() {
        BlockLayer x = new BlockLayer();
        Layers.saveAll(x, 0, 1, 2, 3, 4, 5, 6, 7, 8, 9);
        x.load(0);
        checks.due("evictions with ten buffers", 0, x.told(8));
        checks.due("load(200)", 0, x.load(200));
        checks.due("evictions with the eleventh", 1, x.told(8));
        checks.due("order of use", "2 3 4 5 6 7 8 9 0 200", Layers.usedBlocks(x));
        checks.due("evicted buffer", 0, x.buffer(1));
        checks.due("time: the WRITE of 1 is nearer", 29, x.told(0));
        checks.due("newest(1)", 1001, x.newest(1));
        checks.due("the WRITE is in the cache", 1, x.told(4));
    }

    private static void missDoesNotWaitForAll() {
        BlockLayer x = new BlockLayer();
        Layers.saveAll(x, 255, 1, 2, 3, 4, 5, 6, 7, 8, 9);
        x.load(0);
        checks.due("time", 2, x.told(0));
        checks.due("the WRITE was made before the READ, and waits", "0", Layers.queuedNumbers(x));
        checks.due("it is of the evicted block", 255, x.request(0, 1));
        checks.due("made", 0, x.request(0, 3));
        x.sync();
        checks.due("the READ had a number too", "0 2 3 4 5 6 7 8 9 10 11", Layers.queuedNumbers(x));
    }

    private static void missWaitsForBarrier() {
        BlockLayer x = new BlockLayer();
        x.save(8, 1);
        x.sync();
        x.load(0);
        checks.due("3 for the WRITE, 2 for the barrier, 3 for the READ", 8, x.told(0));
        checks.due("media(8)", 1, x.media(8));
    }

    private static void missWaitsForWriteOfItsBlock() {
        BlockLayer x = Layers.withWrites(8);
        checks.due("load(8)", 1008, x.load(8));
        checks.due("media(8)", 0, x.media(8));
        checks.due("buffer(8)", 1, x.buffer(8));
    }

    private static void missWhileDiskServes() {
        BlockLayer x = Layers.withWrites(80);
        x.step(5);
        checks.due("the WRITE is served", 0, x.told(2));
        x.load(80);
        checks.due("12 for the WRITE, 2 for the READ", 14, x.told(0));
    }

    private static void missFindsMedia() {
        BlockLayer x = new BlockLayer();
        x.save(8, 5);
        x.sync();
        Layers.loadOut(x, 100);
        checks.due("buffer(8)", 0, x.buffer(8));
        checks.due("the cache is empty", 0, x.told(4));
        checks.due("load(8) from the media", 5, x.load(8));
    }

    private static void wrongBlocks() {
        BlockLayer x = new BlockLayer();
        for (int block : new int[] {-1, 256, Integer.MIN_VALUE, Integer.MAX_VALUE}) {
            checks.refused("load(" + block + ")", IndexOutOfBoundsException.class, () -> x.load(block));
        }
        BlockLayer full = Layers.withBarriers(40);
        checks.refused("load(256), queue full", IndexOutOfBoundsException.class, () -> full.load(256));
    }

    private static void fullQueue() {
        BlockLayer x = Layers.withBarriers(38);
        checks.due("load(0) behind 38", 0, x.load(0));
        checks.due("its time", 40, x.told(0));
        BlockLayer y = Layers.withBarriers(39);
        checks.refused("load(0) behind 39", UnsupportedOperationException.class, () -> y.load(0));
        y.step(1);
        checks.due("load(0) behind 38 again", 0, y.load(0));
    }

    private static void lastOfAllThatCanWait() {
        BlockLayer x = new BlockLayer();
        x.policy(0);
        for (int block = 0; block < 49; block++) {
            x.save(block, 1);
        }
        x.step(1);
        checks.due("38 wait", 38, x.told(3));
        checks.due("load(200)", 0, x.load(200));
        checks.due("the served one, 38, a WRITE and the READ", 41, x.told(10));
        checks.due("40 times 2 and 4 tracks, 21 tracks and 2", 107, x.told(0));
        checks.due("buffer(200)", 1, x.buffer(200));
    }
}
