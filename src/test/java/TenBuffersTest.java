/** Full: ten buffers at most, and what goes before one more. */
final class TenBuffersTest {
    private static final Checks checks = new Checks();

    public static void main(String[] args) {
        tenthByLoad();
        tenthBySave();
        eleventhByLoadOverDirty();
        eleventhByLoadOverClean();
        eleventhBySaveOverDirty();
        eleventhBySaveOverClean();
        eleventhOverSynced();
        hitNeedsNoRoom();
        usedAgainGoesLater();
        eachOneMoreSendsOne();
        oneThatWentComesAgain();
        checks.finish();
    }

    /** Dirty buffers of blocks from, from + 1, .. */
    private static BlockLayer withDirty(int from, int count) {
        BlockLayer x = new BlockLayer();
        for (int i = 0; i < count; i++) {
            x.save(from + i, 1000 + from + i);
        }
        return x;
    }

    private static BlockLayer withClean(int from, int count) {
        BlockLayer x = new BlockLayer();
        for (int i = 0; i < count; i++) {
            x.load(from + i);
        }
        return x;
    }

    private static void tenthByLoad() {
        BlockLayer x = withDirty(20, 9);
        x.load(40);
        checks.due("ten buffers", 10, x.told(5));
        checks.due("no eviction", 0, x.told(8));
        checks.due("order of use", "20 21 22 23 24 25 26 27 28 40", Layers.usedBlocks(x));
        x.sync();
        checks.due("the READ alone had a number before", 1, x.queued(0));
    }

    private static void tenthBySave() {
        BlockLayer x = withDirty(20, 9);
        x.save(40, 1);
        checks.due("ten buffers", 10, x.told(5));
        checks.due("no eviction", 0, x.told(8));
        checks.due("no request", 0, x.told(3));
        checks.due("order of use", "20 21 22 23 24 25 26 27 28 40", Layers.usedBlocks(x));
    }

    private static void eleventhByLoadOverDirty() {
        BlockLayer x = withDirty(160, 10);
        checks.due("load(0)", 0, x.load(0));
        checks.due("ten buffers", 10, x.told(5));
        checks.due("an eviction", 1, x.told(8));
        checks.due("order of use", "161 162 163 164 165 166 167 168 169 0", Layers.usedBlocks(x));
        checks.due("the first used is a buffer no more", 0, x.buffer(160));
        checks.due("its WRITE was made before the READ, and waits", "0", Layers.queuedNumbers(x));
        checks.due("kind", 1, x.request(0, 0));
        checks.due("block", 160, x.request(0, 1));
        checks.due("value", 1160, x.request(0, 2));
        checks.due("made before time went on", 0, x.request(0, 3));
        checks.due("newest(160)", 1160, x.newest(160));
        checks.due("the second is dirty still", 2, x.buffer(161));
        x.sync();
        checks.due("the READ had number 1", 2, x.queued(1));
    }

    private static void eleventhByLoadOverClean() {
        BlockLayer x = withClean(160, 10);
        x.load(0);
        checks.due("ten buffers", 10, x.told(5));
        checks.due("an eviction", 1, x.told(8));
        checks.due("order of use", "161 162 163 164 165 166 167 168 169 0", Layers.usedBlocks(x));
        checks.due("eleven READs, and no WRITE", 11, x.told(10));
        checks.due("queue", 0, x.told(3));
        x.sync();
        checks.due("no number for a WRITE", 11, x.queued(0));
    }

    private static void eleventhBySaveOverDirty() {
        BlockLayer x = withDirty(160, 10);
        checks.due("save(0, 1)", 0, x.save(0, 1));
        checks.due("ten buffers", 10, x.told(5));
        checks.due("an eviction", 1, x.told(8));
        checks.due("order of use", "161 162 163 164 165 166 167 168 169 0", Layers.usedBlocks(x));
        checks.due("a WRITE", "0", Layers.queuedNumbers(x));
        checks.due("kind", 1, x.request(0, 0));
        checks.due("block", 160, x.request(0, 1));
        checks.due("value", 1160, x.request(0, 2));
        checks.due("no time", 0, x.told(0));
    }

    private static void eleventhBySaveOverClean() {
        BlockLayer x = withClean(160, 10);
        x.save(0, 1);
        checks.due("ten buffers", 10, x.told(5));
        checks.due("an eviction", 1, x.told(8));
        checks.due("order of use", "161 162 163 164 165 166 167 168 169 0", Layers.usedBlocks(x));
        checks.due("no request", 0, x.told(3));
        checks.due("buffer(0)", 2, x.buffer(0));
        checks.due("buffer(161)", 1, x.buffer(161));
    }

    /** What sync() has written is dirty no more, and makes no second WRITE. */
    private static void eleventhOverSynced() {
        BlockLayer x = withDirty(160, 10);
        x.sync();
        x.save(0, 1);
        checks.due("an eviction", 1, x.told(8));
        checks.due("the sync's requests alone", 11, x.told(3));
        checks.due("absorbed", 0, x.told(9));
    }

    private static void hitNeedsNoRoom() {
        BlockLayer x = withDirty(160, 10);
        checks.due("load(160)", 1160, x.load(160));
        checks.due("save(161, 2)", 1161, x.save(161, 2));
        checks.due("no eviction", 0, x.told(8));
        checks.due("ten buffers", 10, x.told(5));
        checks.due("no request", 0, x.told(3));
    }

    private static void usedAgainGoesLater() {
        BlockLayer x = withDirty(160, 10);
        x.load(160);
        x.save(161, 2);
        x.save(0, 1);
        checks.due("the first used now is gone", 0, x.buffer(162));
        checks.due("order of use", "163 164 165 166 167 168 169 160 161 0", Layers.usedBlocks(x));
        checks.due("block of the WRITE", 162, x.request(0, 1));
    }

    private static void eachOneMoreSendsOne() {
        BlockLayer x = withDirty(160, 10);
        for (int i = 0; i < 10; i++) {
            x.save(i, 1);
            checks.due("evictions", i + 1, x.told(8));
            checks.due("buffers", 10, x.told(5));
            checks.due("requests", i + 1, x.told(3));
            checks.due("block of the last one", 160 + i, x.request(i, 1));
        }
    }

    /** The block that needs room is the same that went just before. */
    private static void oneThatWentComesAgain() {
        BlockLayer x = withDirty(160, 10);
        x.save(0, 1);
        checks.due("save(160, 3)", 0, x.save(160, 3));
        checks.due("two evictions", 2, x.told(8));
        checks.due("WRITEs of 160 and 161", "0 1", Layers.queuedNumbers(x));
        checks.due("the WRITE of 160 has its old value", 1160, x.request(0, 2));
        checks.due("newest(160)", 3, x.newest(160));
        checks.due("absorbed", 0, x.told(9));
    }
}
