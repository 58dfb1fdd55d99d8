/** Too small and too large: the outermost arguments that a call takes, and the first ones that it does not. */
final class RangesTest {
    private static final Checks checks = new Checks();
    private static final int LEAST = Integer.MIN_VALUE;
    private static final int GREATEST = Integer.MAX_VALUE;
    private static final int[] NO_BLOCKS = {-1, 256, LEAST, GREATEST};

    public static void main(String[] args) {
        blocksOfLoad();
        blocksOfSave();
        blocksOfNewest();
        blocksOfMedia();
        blocksOfBuffer();
        wrongBlockBeforeFullQueue();
        tracksOfBlocks();
        unitsOfStep();
        policies();
        placesOfUsed();
        placesOfQueued();
        placesOfQueuedBehindTheServed();
        numbersOfRequest();
        barriersOfRequest();
        numbersThatWereLost();
        whatsOfRequest();
        whatsOfTold();
        checks.finish();
    }

    /** 70 in block 0 and 71 in block 255 are on the media, and nothing is anywhere else. */
    private static BlockLayer withBothEnds() {
        BlockLayer x = new BlockLayer();
        x.save(0, 70);
        x.save(255, 71);
        x.sync();
        x.drain();
        x.crash();
        return x;
    }

    private static void blocksOfLoad() {
        BlockLayer x = withBothEnds();
        for (int block : NO_BLOCKS) {
            checks.refused("load(" + block + ")", IndexOutOfBoundsException.class, () -> x.load(block));
        }
        checks.due("load(0)", 70, x.load(0));
        checks.due("load(255)", 71, x.load(255));
        checks.due("load(1)", 0, x.load(1));
        checks.due("load(254)", 0, x.load(254));
        checks.due("buffers", "0 255 1 254", Layers.usedBlocks(x));
    }

    private static void blocksOfSave() {
        BlockLayer x = new BlockLayer();
        for (int block : NO_BLOCKS) {
            checks.refused("save(" + block + ", 1)", IndexOutOfBoundsException.class, () -> x.save(block, 1));
        }
        checks.due("save(0, 5)", 0, x.save(0, 5));
        checks.due("save(255, 6)", 0, x.save(255, 6));
        checks.due("save(0, 7)", 5, x.save(0, 7));
        checks.due("save(255, 8)", 6, x.save(255, 8));
        checks.due("buffers", "0 255", Layers.usedBlocks(x));
    }

    private static void blocksOfNewest() {
        BlockLayer x = withBothEnds();
        for (int block : NO_BLOCKS) {
            checks.refused("newest(" + block + ")", IndexOutOfBoundsException.class, () -> x.newest(block));
        }
        checks.due("newest(0)", 70, x.newest(0));
        checks.due("newest(1)", 0, x.newest(1));
        checks.due("newest(254)", 0, x.newest(254));
        checks.due("newest(255)", 71, x.newest(255));
    }

    private static void blocksOfMedia() {
        BlockLayer x = withBothEnds();
        for (int block : NO_BLOCKS) {
            checks.refused("media(" + block + ")", IndexOutOfBoundsException.class, () -> x.media(block));
        }
        checks.due("media(0)", 70, x.media(0));
        checks.due("media(1)", 0, x.media(1));
        checks.due("media(254)", 0, x.media(254));
        checks.due("media(255)", 71, x.media(255));
    }

    private static void blocksOfBuffer() {
        BlockLayer x = new BlockLayer();
        x.load(0);
        x.save(255, 1);
        for (int block : NO_BLOCKS) {
            checks.refused("buffer(" + block + ")", IndexOutOfBoundsException.class, () -> x.buffer(block));
        }
        checks.due("buffer(0)", 1, x.buffer(0));
        checks.due("buffer(1)", 0, x.buffer(1));
        checks.due("buffer(254)", 0, x.buffer(254));
        checks.due("buffer(255)", 2, x.buffer(255));
    }

    private static void wrongBlockBeforeFullQueue() {
        BlockLayer x = Layers.withBarriers(40);
        for (int block : new int[] {-1, 256}) {
            checks.refused("load(" + block + "), queue full", IndexOutOfBoundsException.class, () -> x.load(block));
            checks.refused("save(" + block + ", 1), queue full", IndexOutOfBoundsException.class,
                () -> x.save(block, 1));
        }
        checks.refused("load(0), queue full", UnsupportedOperationException.class, () -> x.load(0));
        checks.refused("save(255, 1), queue full", UnsupportedOperationException.class, () -> x.save(255, 1));
    }

    private static void tracksOfBlocks() {
        int[] blocks = {0, 7, 8, 15, 16, 247, 248, 255};
        int[] tracks = {0, 0, 1, 1, 2, 30, 31, 31};
        for (int i = 0; i < blocks.length; i++) {
            BlockLayer x = new BlockLayer();
            x.load(blocks[i]);
            checks.due("the head after load(" + blocks[i] + ")", tracks[i], x.told(1));
            checks.due("its units", tracks[i] + 2, x.told(0));
        }
    }

    private static void unitsOfStep() {
        BlockLayer x = new BlockLayer();
        for (int n : new int[] {0, -1, 1001, LEAST, GREATEST}) {
            checks.refused("step(" + n + ")", IllegalArgumentException.class, () -> x.step(n));
            checks.due("the time after it", 0, x.told(0));
        }
        checks.due("step(1)", 1, x.step(1));
        checks.due("step(1000)", 1001, x.step(1000));
        checks.due("step(999)", 2000, x.step(999));
        checks.due("the time", 2000, x.told(0));
    }

    private static void policies() {
        BlockLayer x = new BlockLayer();
        for (int p : new int[] {-1, 5, LEAST, GREATEST}) {
            checks.refused("policy(" + p + ")", IllegalArgumentException.class, () -> x.policy(p));
        }
        checks.due("policy(0)", 3, x.policy(0));
        checks.refused("policy(-1)", IllegalArgumentException.class, () -> x.policy(-1));
        checks.due("policy(4)", 0, x.policy(4));
        checks.refused("policy(5)", IllegalArgumentException.class, () -> x.policy(5));
        checks.due("policy(4) again", 4, x.policy(4));
    }

    private static void placesOfUsed() {
        for (int count : new int[] {0, 1, 9, 10}) {
            BlockLayer x = new BlockLayer();
            for (int i = 0; i < count; i++) {
                x.save(200 + i, 1);
            }
            checks.due("the last of " + count + " buffers", count == 0 ? -1 : 199 + count, x.used(count - 1));
            for (int i : new int[] {-1, count, count + 1, LEAST, GREATEST}) {
                checks.due("used(" + i + ") of " + count, -1, x.used(i));
            }
        }
    }

    private static void placesOfQueued() {
        for (int count : new int[] {0, 1, 39, 40}) {
            BlockLayer x = Layers.withBarriers(count);
            checks.due("the first of " + count, count == 0 ? -1 : 0, x.queued(0));
            checks.due("the last of " + count, count - 1, x.queued(count - 1));
            for (int i : new int[] {-1, count, count + 1, LEAST, GREATEST}) {
                checks.due("queued(" + i + ") of " + count, -1, x.queued(i));
            }
        }
    }

    private static void placesOfQueuedBehindTheServed() {
        BlockLayer x = Layers.withWrites(80, 81);
        x.step(1);
        checks.due("queued(0)", 1, x.queued(0));
        checks.due("queued(1), where the last one was", -1, x.queued(1));
        x.step(12);
        checks.due("queued(0) when that is served too", -1, x.queued(0));
    }

    /** 0 has ended, 1 is served, 2 is in the queue, 3 was never given. */
    private static BlockLayer withAllKindsOfNumbers() {
        BlockLayer x = Layers.withWrites(0, 80, 255);
        x.policy(0);
        x.step(7);
        return x;
    }

    private static void numbersOfRequest() {
        BlockLayer x = withAllKindsOfNumbers();
        checks.due("served", 1, x.told(2));
        int[][] due = {{-1, -1, -1, -1}, {1, 80, 1080, 0}, {1, 255, 1255, 0}, {-1, -1, -1, -1}};
        for (int what = 0; what <= 3; what++) {
            for (int number = 0; number <= 3; number++) {
                checks.due("request(" + number + ", " + what + ")", due[number][what], x.request(number, what));
            }
            for (int number : new int[] {-1, 4, LEAST, GREATEST}) {
                checks.due("request(" + number + ", " + what + ")", -1, x.request(number, what));
            }
        }
        x.drain();
        for (int what = 0; what <= 3; what++) {
            checks.due("request(2, " + what + ") when it has ended", -1, x.request(2, what));
            checks.due("request(-1, " + what + ") while idle", -1, x.request(-1, what));
        }
    }

    private static void barriersOfRequest() {
        BlockLayer x = new BlockLayer();
        x.step(9);
        Layers.saveAll(x, 0);
        x.sync();
        checkBarrier("in the queue", x, 1, 9);
        x.step(3);
        checks.due("served", 1, x.told(2));
        checkBarrier("served", x, 1, 9);
        x.step(1);
        checks.due("request(1, 0) when it has ended", -1, x.request(1, 0));
    }

    private static void checkBarrier(String at, BlockLayer x, int number, int made) {
        int[] due = {2, -1, 0, made};
        for (int what = 0; what <= 3; what++) {
            checks.due("barrier " + at + ", what " + what, due[what], x.request(number, what));
        }
    }

    private static void numbersThatWereLost() {
        BlockLayer x = withAllKindsOfNumbers();
        x.crash();
        for (int number = 0; number <= 3; number++) {
            for (int what = 0; what <= 3; what++) {
                checks.due("request(" + number + ", " + what + ") lost", -1, x.request(number, what));
            }
        }
    }

    private static void whatsOfRequest() {
        BlockLayer x = withAllKindsOfNumbers();
        for (int what : new int[] {-1, 4, 5, LEAST, GREATEST}) {
            for (int number = 0; number <= 3; number++) {
                checks.due("request(" + number + ", " + what + ")", -1, x.request(number, what));
            }
        }
    }

    private static void whatsOfTold() {
        BlockLayer x = withAllKindsOfNumbers();
        x.load(150);
        for (int what : new int[] {-1, 12, 13, LEAST, GREATEST}) {
            checks.due("told(" + what + ")", -1, x.told(what));
        }
        int[] due = {7, 10, 1, 1, 1, 10, 1, 0, 3, 0, 1, 0};
        for (int what = 0; what <= 11; what++) {
            checks.due("told(" + what + ")", due[what], x.told(what));
        }
    }
}
