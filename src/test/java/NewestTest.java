/** Promise 9. */
final class NewestTest {
    private static final Checks checks = new Checks();

    public static void main(String[] args) {
        nearerPlacesComeFirst();
        changesNothing();
        isWhatLoadAnswers();
        wrongBlocks();
        checks.finish();
    }

    private static void nearerPlacesComeFirst() {
        BlockLayer x = new BlockLayer();
        x.save(8, 1);
        x.sync();
        x.save(8, 2);
        x.sync();
        x.save(8, 3);
        checks.due("of the buffer", 3, x.newest(8));
        Layers.pushOut(x);
        x.save(160, 1);
        checks.due("no buffer", 0, x.buffer(8));
        checks.due("of the last WRITE in the queue", 3, x.newest(8));
        x.step(3);
        checks.due("1 is in the cache", 1, x.told(4));
        checks.due("of the last WRITE still", 3, x.newest(8));
        x.step(2);
        checks.due("media(8)", 1, x.media(8));
        x.step(4);
        checks.due("media(8)", 2, x.media(8));
        x.step(1);
        checks.due("the last WRITE is served", 4, x.told(2));
        checks.due("of the served WRITE", 3, x.newest(8));
        x.step(1);
        checks.due("of the cache", 3, x.newest(8));
        checks.due("media(8)", 2, x.media(8));
        x.crash();
        checks.due("of the media", 2, x.newest(8));
    }

    private static void changesNothing() {
        BlockLayer x = Layers.withWrites(8, 80);
        BlockLayer y = Layers.withWrites(8, 80);
        x.newest(8);
        x.newest(150);
        x.newest(0);
        checks.due("after newest()", Layers.look(y), Layers.look(x));
        BlockLayer full = Layers.withBarriers(40);
        checks.due("newest(255) with a full queue", 0, full.newest(255));
    }

    private static void isWhatLoadAnswers() {
        for (int block : new int[] {0, 8, 80, 150, 159, 255}) {
            for (int units = 1; units <= 16; units++) {
                BlockLayer x = Layers.withWrites(8, 80, 0, 255);
                x.step(units);
                checks.due("newest(" + block + ") after " + units, x.newest(block), x.load(block));
            }
        }
    }

    private static void wrongBlocks() {
        BlockLayer x = new BlockLayer();
        for (int block : new int[] {-1, 256, Integer.MIN_VALUE, Integer.MAX_VALUE}) {
            checks.refused("newest(" + block + ")", IndexOutOfBoundsException.class, () -> x.newest(block));
        }
    }
}
