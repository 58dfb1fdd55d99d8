/** Ways to bring a BlockLayer where a test wants it, and to look at all of it. */
final class Layers {
    /** Where pushOut's ten blocks begin; tests keep their own blocks away from these. */
    static final int PUSH = 150;

    private Layers() {
    }

    /** Saves value 1000 + b to each of these blocks b, in this order. */
    static void saveAll(BlockLayer x, int... blocks) {
        for (int block : blocks) {
            x.save(block, 1000 + block);
        }
    }

    /** No time goes on: ten more dirty buffers, and each that was dirty before has become a WRITE. */
    static void pushOut(BlockLayer x) {
        for (int block = PUSH; block < PUSH + 10; block++) {
            x.save(block, 1000 + block);
        }
    }

    /** Ten clean buffers of blocks from .. from + 9; what was dirty before has come to the disk's cache. */
    static void loadOut(BlockLayer x, int from) {
        for (int block = from; block < from + 10; block++) {
            x.load(block);
        }
        x.drain();
    }

    /** WRITE requests of these blocks in the queue, numbered in this order, made at the time 0. */
    static BlockLayer withWrites(int... blocks) {
        BlockLayer x = new BlockLayer();
        saveAll(x, blocks);
        pushOut(x);
        return x;
    }

    /** Without buffers, and with so many barriers in the queue. */
    static BlockLayer withBarriers(int count) {
        BlockLayer x = new BlockLayer();
        for (int i = 0; i < count; i++) {
            x.sync();
        }
        return x;
    }

    /** All but the values of the blocks that have no buffer: some 290 calls when the queue is full. */
    static String look(BlockLayer x) {
        StringBuilder text = new StringBuilder();
        for (int what = 0; what <= 11; what++) {
            text.append(" told").append(what).append('=').append(x.told(what));
        }
        for (int i = 0; x.used(i) != BlockLayer.NONE; i++) {
            int block = x.used(i);
            text.append(" buffer ").append(block).append('=').append(x.newest(block)).append('/').append(x.buffer(block));
        }
        for (int i = 0; x.queued(i) != BlockLayer.NONE; i++) {
            text.append(lookAtRequest(x, x.queued(i)));
        }
        return text.append(lookAtRequest(x, x.told(2))).toString();
    }

    private static String lookAtRequest(BlockLayer x, int number) {
        StringBuilder text = new StringBuilder(" request ").append(number);
        for (int what = 0; what <= 3; what++) {
            text.append('/').append(x.request(number, what));
        }
        return text.toString();
    }

    /** The blocks of the buffers, the first used first. */
    static String usedBlocks(BlockLayer x) {
        StringBuilder text = new StringBuilder();
        for (int i = 0; x.used(i) != BlockLayer.NONE; i++) {
            text.append(i == 0 ? "" : " ").append(x.used(i));
        }
        return text.toString();
    }

    /** The numbers of the requests in the queue. */
    static String queuedNumbers(BlockLayer x) {
        StringBuilder text = new StringBuilder();
        for (int i = 0; x.queued(i) != BlockLayer.NONE; i++) {
            text.append(i == 0 ? "" : " ").append(x.queued(i));
        }
        return text.toString();
    }

    /** The numbers of the requests that the disk begins to serve from now on, until it has no work. */
    static String servedInOrder(BlockLayer x) {
        StringBuilder text = new StringBuilder();
        int last = x.told(2);
        for (int i = 0; i < 150 && x.told(3) != 0; i++) {
            x.step(1);
            int now = x.told(2);
            if (now != BlockLayer.NONE && now != last) {
                text.append(text.length() == 0 ? "" : " ").append(now);
                last = now;
            }
        }
        return text.toString();
    }
}
