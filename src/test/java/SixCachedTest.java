/** Full: the disk's cache of six, and a block that is in it already. */
final class SixCachedTest {
    private static final Checks checks = new Checks();

    public static void main(String[] args) {
        sixthAndSeventh();
        eachOneMoreSendsTheFirst();
        alreadyInAFullCache();
        alreadyTheLast();
        alreadyTheFirstThenASeventh();
        theOnlyOneAgain();
        barrierOverNoneAndSix();
        readFindsTheCacheFirst();
        readFindsTheMediaOfWhatWent();
        checks.finish();
    }

    /** Blocks 0 .. count - 1 wait as WRITEs on track 0, where each takes 2 units. */
    private static BlockLayer withWaiting(int count) {
        int[] blocks = new int[count];
        for (int i = 0; i < count; i++) {
            blocks[i] = i;
        }
        return Layers.withWrites(blocks);
    }

    /** Blocks 0 .. count - 1 are in the cache in this order, and the ten buffers are clean. */
    private static BlockLayer withCached(int count) {
        BlockLayer x = new BlockLayer();
        x.policy(0);
        for (int i = 0; i < count; i++) {
            x.save(i, 1000 + i);
        }
        Layers.loadOut(x, 100);
        return x;
    }

    /** A WRITE of this block comes to the cache; from .. from + 9 must have no buffers. */
    private static void writeMore(BlockLayer x, int block, int value, int from) {
        x.save(block, value);
        Layers.loadOut(x, from);
    }

    private static void sixthAndSeventh() {
        BlockLayer x = withWaiting(7);
        x.step(10);
        checks.due("five in the cache", 5, x.told(4));
        x.step(2);
        checks.due("the sixth", 6, x.told(4));
        checks.due("media(0) with six", 0, x.media(0));
        x.step(1);
        checks.due("the seventh is served", 6, x.told(2));
        checks.due("media(0) until it ends", 0, x.media(0));
        x.step(1);
        checks.due("six with the seventh", 6, x.told(4));
        checks.due("the first went to the media", 1000, x.media(0));
        checks.due("the second did not", 0, x.media(1));
        checks.due("nor did the seventh", 0, x.media(6));
        checks.due("newest(6)", 1006, x.newest(6));
        checks.due("all but the first, and ten buffers, are lost", 16, x.crash());
        checks.due("newest(0)", 1000, x.newest(0));
    }

    private static void eachOneMoreSendsTheFirst() {
        BlockLayer x = withWaiting(8);
        x.step(16);
        checks.due("six in the cache", 6, x.told(4));
        checks.due("media(0)", 1000, x.media(0));
        checks.due("media(1)", 1001, x.media(1));
        checks.due("media(2)", 0, x.media(2));
    }

    private static void alreadyInAFullCache() {
        BlockLayer x = withCached(6);
        checks.due("six", 6, x.told(4));
        writeMore(x, 3, 7, 110);
        checks.due("six again", 6, x.told(4));
        for (int block = 0; block < 6; block++) {
            checks.due("media(" + block + ")", 0, x.media(block));
        }
        checks.due("newest(3)", 7, x.newest(3));
        writeMore(x, 6, 8, 120);
        writeMore(x, 7, 8, 130);
        writeMore(x, 8, 8, 140);
        checks.due("media(2)", 1002, x.media(2));
        checks.due("3 is not where it was before", 0, x.media(3));
        writeMore(x, 9, 8, 150);
        checks.due("4 goes instead of it", 1004, x.media(4));
        checks.due("media(3)", 0, x.media(3));
        writeMore(x, 10, 8, 160);
        writeMore(x, 11, 8, 170);
        checks.due("3 goes behind 5, with its later value", 7, x.media(3));
        checks.due("media(6)", 0, x.media(6));
    }

    private static void alreadyTheLast() {
        BlockLayer x = withCached(6);
        writeMore(x, 5, 7, 110);
        checks.due("six", 6, x.told(4));
        checks.due("media(0)", 0, x.media(0));
        checks.due("media(5)", 0, x.media(5));
        checks.due("newest(5)", 7, x.newest(5));
    }

    private static void alreadyTheFirstThenASeventh() {
        BlockLayer x = withCached(6);
        writeMore(x, 0, 7, 110);
        checks.due("six", 6, x.told(4));
        checks.due("media(0)", 0, x.media(0));
        writeMore(x, 6, 8, 120);
        checks.due("six", 6, x.told(4));
        checks.due("the second was the first then", 1001, x.media(1));
        checks.due("media(0)", 0, x.media(0));
    }

    private static void theOnlyOneAgain() {
        BlockLayer x = withCached(1);
        checks.due("one", 1, x.told(4));
        writeMore(x, 0, 7, 110);
        checks.due("one again", 1, x.told(4));
        checks.due("media(0)", 0, x.media(0));
        checks.due("newest(0)", 7, x.newest(0));
    }

    private static void barrierOverNoneAndSix() {
        BlockLayer x = new BlockLayer();
        x.sync();
        checks.due("a barrier over nothing takes 1", 1, x.drain());
        BlockLayer y = withCached(6);
        y.sync();
        y.step(6);
        checks.due("it is served after 6", 16, y.told(2));
        checks.due("media(0) before its end", 0, y.media(0));
        checks.due("cache before its end", 6, y.told(4));
        y.step(1);
        checks.due("a barrier over six takes 7", -1, y.told(2));
        checks.due("cache", 0, y.told(4));
        for (int block = 0; block < 6; block++) {
            checks.due("media(" + block + ")", 1000 + block, y.media(block));
        }
    }

    private static void readFindsTheCacheFirst() {
        BlockLayer x = withCached(2);
        x.sync();
        x.drain();
        writeMore(x, 0, 7, 110);
        checks.due("media(0)", 1000, x.media(0));
        checks.due("load(0) of the cache", 7, x.load(0));
        checks.due("load(1) of the media", 1001, x.load(1));
        checks.due("a READ leaves the cache alone", 1, x.told(4));
    }

    private static void readFindsTheMediaOfWhatWent() {
        BlockLayer x = withCached(6);
        writeMore(x, 6, 8, 110);
        checks.due("media(0)", 1000, x.media(0));
        checks.due("load(0)", 1000, x.load(0));
        checks.due("load(1)", 1001, x.load(1));
    }
}
