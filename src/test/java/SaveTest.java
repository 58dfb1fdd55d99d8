/** Promise 3. */
final class SaveTest {
    private static final Checks checks = new Checks();

    public static void main(String[] args) {
        valuesBefore();
        valueBeforeIsNotAskedOfTheDisk();
        cleanBufferGetsDirty();
        eleventhBuffer();
        cleanBufferGoesWithoutRequest();
        wrongBlocks();
        fullQueue();
        checks.finish();
    }

    private static void valuesBefore() {
        BlockLayer x = new BlockLayer();
        checks.due("save(255, 3)", 0, x.save(255, 3));
        checks.due("save(255, MIN)", 3, x.save(255, Integer.MIN_VALUE));
        checks.due("save(255, 0)", Integer.MIN_VALUE, x.save(255, 0));
        checks.due("newest(255)", 0, x.newest(255));
        checks.due("buffer(255)", 2, x.buffer(255));
        checks.due("no hit", 0, x.told(6));
        checks.due("no miss", 0, x.told(7));
        checks.due("no time", 0, x.told(0));
        checks.due("no request", 0, x.told(3));
    }

    private static void valueBeforeIsNotAskedOfTheDisk() {
        BlockLayer x = Layers.withWrites(8);
        checks.due("save(8, 2) with 1008 in the queue", 0, x.save(8, 2));
        BlockLayer y = new BlockLayer();
        y.save(8, 5);
        y.sync();
        Layers.loadOut(y, 100);
        checks.due("save(8, 2) with 5 on the media", 0, y.save(8, 2));
        checks.due("newest(8)", 2, y.newest(8));
        checks.due("media(8)", 5, y.media(8));
    }

    private static void cleanBufferGetsDirty() {
        BlockLayer x = new BlockLayer();
        x.save(8, 5);
        x.sync();
        x.load(9);
        checks.due("buffer(8)", 1, x.buffer(8));
        checks.due("save(8, 5)", 5, x.save(8, 5));
        checks.due("buffer(8)", 2, x.buffer(8));
        checks.due("it is used", "9 8", Layers.usedBlocks(x));
    }

    private static void eleventhBuffer() {
        BlockLayer x = new BlockLayer();
        Layers.saveAll(x, 20, 21, 22, 23, 24, 25, 26, 27, 28, 29);
        x.save(20, 7);
        checks.due("no eviction with ten", 0, x.told(8));
        checks.due("save(30, 1)", 0, x.save(30, 1));
        checks.due("an eviction", 1, x.told(8));
        checks.due("ten buffers", 10, x.told(5));
        checks.due("order of use", "22 23 24 25 26 27 28 29 20 30", Layers.usedBlocks(x));
        checks.due("a request", "0", Layers.queuedNumbers(x));
        checks.due("its block", 21, x.request(0, 1));
        checks.due("its value", 1021, x.request(0, 2));
        checks.due("no time", 0, x.told(0));
    }

    private static void cleanBufferGoesWithoutRequest() {
        BlockLayer x = new BlockLayer();
        Layers.loadOut(x, 100);
        x.save(8, 1);
        checks.due("an eviction", 1, x.told(8));
        checks.due("no request", 0, x.told(3));
    }

    private static void wrongBlocks() {
        BlockLayer x = new BlockLayer();
        for (int block : new int[] {-1, 256, Integer.MIN_VALUE, Integer.MAX_VALUE}) {
            checks.refused("save(" + block + ")", IndexOutOfBoundsException.class, () -> x.save(block, 1));
        }
        BlockLayer full = Layers.withBarriers(40);
        checks.refused("save(-1, 1), queue full", IndexOutOfBoundsException.class, () -> full.save(-1, 1));
    }

    private static void fullQueue() {
        BlockLayer x = Layers.withBarriers(38);
        checks.due("save(8, 1) behind 38", 0, x.save(8, 1));
        x.sync();
        checks.due("40 requests", 40, x.told(3));
        checks.refused("save(8, 2) of a buffer", UnsupportedOperationException.class, () -> x.save(8, 2));
        checks.refused("load(8) of a buffer", UnsupportedOperationException.class, () -> x.load(8));
        BlockLayer y = Layers.withBarriers(39);
        checks.refused("save(8, 1) behind 39", UnsupportedOperationException.class, () -> y.save(8, 1));
    }
}
