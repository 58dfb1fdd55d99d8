/** Promise 10, and the disk's cache. */
final class MediaTest {
    private static final Checks checks = new Checks();

    public static void main(String[] args) {
        seventhInTheCache();
        writtenAgainInTheCache();
        barrierEmptiesTheCache();
        barrierTakesAsLongAsTheCache();
        readsLeaveTheCacheAlone();
        wrongBlocks();
        checks.finish();
    }

    private static void seventhInTheCache() {
        BlockLayer x = Layers.withWrites(0, 1, 2, 3, 4, 5, 6, 7);
        x.step(12);
        checks.due("six in the cache", 6, x.told(4));
        checks.due("media(0)", 0, x.media(0));
        x.step(2);
        checks.due("still six", 6, x.told(4));
        checks.due("media(0)", 1000, x.media(0));
        checks.due("media(1)", 0, x.media(1));
        x.step(2);
        checks.due("media(1)", 1001, x.media(1));
        checks.due("media(2)", 0, x.media(2));
    }

    private static void writtenAgainInTheCache() {
        BlockLayer x = new BlockLayer();
        Layers.saveAll(x, 0, 1, 2, 3, 4, 5);
        Layers.loadOut(x, 100);
        checks.due("six in the cache", 6, x.told(4));
        x.save(0, 7);
        Layers.loadOut(x, 110);
        checks.due("six in the cache", 6, x.told(4));
        checks.due("media(0)", 0, x.media(0));
        x.save(6, 8);
        Layers.loadOut(x, 120);
        checks.due("six in the cache", 6, x.told(4));
        checks.due("1 is the first now", 1001, x.media(1));
        checks.due("media(0)", 0, x.media(0));
        checks.due("newest(0)", 7, x.newest(0));
    }

    private static void barrierEmptiesTheCache() {
        BlockLayer x = new BlockLayer();
        Layers.saveAll(x, 255, 0, 128);
        x.sync();
        checks.due("2, 18, 17 and 4", 41, x.drain());
        checks.due("cache", 0, x.told(4));
        checks.due("media(255)", 1255, x.media(255));
        checks.due("media(0)", 1000, x.media(0));
        checks.due("media(128)", 1128, x.media(128));
        checks.due("media(1)", 0, x.media(1));
    }

    private static void barrierTakesAsLongAsTheCache() {
        BlockLayer x = new BlockLayer();
        Layers.saveAll(x, 0, 1, 2);
        x.sync();
        x.step(6);
        checks.due("cache", 3, x.told(4));
        x.step(3);
        checks.due("the barrier is served", 3, x.told(2));
        checks.due("nothing on the media before its end", 0, x.media(0));
        checks.due("cache", 3, x.told(4));
        x.step(1);
        checks.due("it ends with its 4th unit", -1, x.told(2));
        checks.due("media(2)", 1002, x.media(2));
    }

    private static void readsLeaveTheCacheAlone() {
        BlockLayer x = Layers.withWrites(8);
        x.load(8);
        checks.due("cache", 1, x.told(4));
        x.load(200);
        checks.due("block 200 is not in it", 0, x.media(200));
        checks.due("media(8)", 0, x.media(8));
    }

    private static void wrongBlocks() {
        BlockLayer x = new BlockLayer();
        checks.due("media(255)", 0, x.media(255));
        for (int block : new int[] {-1, 256, Integer.MIN_VALUE, Integer.MAX_VALUE}) {
            checks.refused("media(" + block + ")", IndexOutOfBoundsException.class, () -> x.media(block));
        }
    }
}
