/** Promises 11 and 12. */
final class BufferTest {
    private static final Checks checks = new Checks();

    public static void main(String[] args) {
        noneCleanDirty();
        wrongBlocks();
        orderOfUse();
        lookingIsNoUse();
        wrongPlaces();
        checks.finish();
    }

    private static void noneCleanDirty() {
        BlockLayer x = new BlockLayer();
        checks.due("buffer(255) at first", 0, x.buffer(255));
        x.load(255);
        checks.due("buffer(255) loaded", 1, x.buffer(255));
        x.save(255, 0);
        checks.due("buffer(255) saved", 2, x.buffer(255));
        x.load(255);
        checks.due("buffer(255) loaded again", 2, x.buffer(255));
        x.sync();
        checks.due("buffer(255) after sync", 1, x.buffer(255));
        checks.due("buffer(254)", 0, x.buffer(254));
        x.crash();
        checks.due("buffer(255) after a crash", 0, x.buffer(255));
    }

    private static void wrongBlocks() {
        BlockLayer x = new BlockLayer();
        for (int block : new int[] {-1, 256, Integer.MIN_VALUE, Integer.MAX_VALUE}) {
            checks.refused("buffer(" + block + ")", IndexOutOfBoundsException.class, () -> x.buffer(block));
        }
    }

    private static void orderOfUse() {
        BlockLayer x = new BlockLayer();
        Layers.saveAll(x, 3, 1, 2);
        checks.due("saved", "3 1 2", Layers.usedBlocks(x));
        x.load(3);
        checks.due("loaded", "1 2 3", Layers.usedBlocks(x));
        x.save(2, 0);
        checks.due("saved again", "1 3 2", Layers.usedBlocks(x));
        x.load(2);
        checks.due("the last one again", "1 3 2", Layers.usedBlocks(x));
        x.load(9);
        checks.due("a miss", "1 3 2 9", Layers.usedBlocks(x));
        Layers.saveAll(x, 10, 11, 12, 13, 14, 15, 16);
        checks.due("the eleventh", "3 2 9 10 11 12 13 14 15 16", Layers.usedBlocks(x));
        checks.due("used(9)", 16, x.used(9));
        checks.due("used(10)", -1, x.used(10));
    }

    private static void lookingIsNoUse() {
        BlockLayer x = new BlockLayer();
        Layers.saveAll(x, 3, 1, 2);
        x.newest(3);
        x.buffer(3);
        x.media(3);
        x.used(0);
        x.sync();
        x.drain();
        checks.due("order of use", "3 1 2", Layers.usedBlocks(x));
    }

    private static void wrongPlaces() {
        BlockLayer x = new BlockLayer();
        x.load(0);
        for (int i : new int[] {-1, 1, 10, 11, Integer.MIN_VALUE, Integer.MAX_VALUE}) {
            checks.due("used(" + i + ")", -1, x.used(i));
        }
    }
}
