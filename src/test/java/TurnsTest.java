/** A wrap-around of the head: the other way under policy 2, the lowest track under policies 3 and 4. */
final class TurnsTest {
    private static final Checks checks = new Checks();

    public static void main(String[] args) {
        upTakesTheHeadsTrack();
        upTakesWhatIsAboveThoughBelowIsNearer();
        upTurnsWhenNoneIsAbove();
        downTakesTheHeadsTrack();
        downTakesWhatIsBelowThoughAboveIsNearer();
        downTurnsWhenNoneIsBelow();
        turnsAtBothEnds();
        upwardGoesToTheLowest();
        upwardTakesTheHeadsTrack();
        upwardFromTheHighestTrack();
        upwardHasNoDirection();
        nearestGoesBothWays();
        ofOneTrackTheLeastNumber();
        crashTurnsUp();
        checks.finish();
    }

    /** Which blocks the disk is busy with, in the order of its service; all are dirty buffers before. */
    private static String orderOf(BlockLayer x, int... blocks) {
        Layers.saveAll(x, blocks);
        x.sync();
        StringBuilder text = new StringBuilder();
        int last = BlockLayer.NONE;
        for (int i = 0; i < 100 && (x.told(3) != 0 || x.told(2) != BlockLayer.NONE); i++) {
            x.step(1);
            int now = x.told(2);
            if (now != BlockLayer.NONE && now != last && x.request(now, 1) != BlockLayer.NONE) {
                text.append(text.length() == 0 ? "" : " ").append(x.request(now, 1));
            }
            last = now;
        }
        return text.toString();
    }

    /** The head at this track, going up, and nothing in the queue. */
    private static BlockLayer at(int track, int policy) {
        BlockLayer x = new BlockLayer();
        x.policy(policy);
        x.load(track * 8);
        checks.due("the head", track, x.told(1));
        return x;
    }

    /** The head at this track under policy 2, going down: it comes from the track above. */
    private static BlockLayer downAt(int track) {
        BlockLayer x = at(track + 1, 2);
        x.load(track * 8);
        checks.due("the head", track, x.told(1));
        return x;
    }

    private static void upTakesTheHeadsTrack() {
        checks.due("up from 10", "83 88 79", orderOf(at(10, 2), 79, 83, 88));
    }

    private static void upTakesWhatIsAboveThoughBelowIsNearer() {
        checks.due("up from 10", "160 240 72", orderOf(at(10, 2), 72, 160, 240));
    }

    private static void upTurnsWhenNoneIsAbove() {
        checks.due("up from 10, all below: the nearest first", "72 40 0", orderOf(at(10, 2), 0, 40, 72));
        BlockLayer x = at(10, 2);
        orderOf(x, 72);
        checks.due("it goes down then", "64 88", orderOf(x, 64, 88));
    }

    private static void downTakesTheHeadsTrack() {
        checks.due("down from 10", "83 72 88", orderOf(downAt(10), 72, 83, 88));
        BlockLayer x = downAt(10);
        checks.due("the head's track alone does not turn it", "83", orderOf(x, 83));
        checks.due("it still goes down", "64 88", orderOf(x, 64, 88));
    }

    private static void downTakesWhatIsBelowThoughAboveIsNearer() {
        checks.due("down from 10", "40 0 88", orderOf(downAt(10), 0, 40, 88));
    }

    private static void downTurnsWhenNoneIsBelow() {
        checks.due("down from 10, all above: the nearest first", "88 160 240", orderOf(downAt(10), 240, 160, 88));
        BlockLayer x = downAt(10);
        orderOf(x, 88);
        checks.due("it goes up then", "96 80", orderOf(x, 80, 96));
    }

    private static void turnsAtBothEnds() {
        BlockLayer x = at(31, 2);
        checks.due("up at the highest track", "255 247", orderOf(x, 247, 255));
        checks.due("down to the lowest track", "240 7", orderOf(x, 7, 240));
        checks.due("down at the lowest track", "6 8", orderOf(x, 6, 8));
        checks.due("up again", "8 16 0", orderOf(x, 0, 8, 16));
    }

    private static void upwardGoesToTheLowest() {
        for (int p = 3; p <= 4; p++) {
            checks.due("policy " + p + ": above first, then the lowest, not the nearest below",
                "88 16 64 72", orderOf(at(10, p), 72, 64, 16, 88));
            checks.due("policy " + p + ": none above", "0 40 72", orderOf(at(10, p), 72, 40, 0));
        }
    }

    private static void upwardTakesTheHeadsTrack() {
        for (int p = 3; p <= 4; p++) {
            checks.due("policy " + p, "83 88 79", orderOf(at(10, p), 79, 83, 88));
        }
    }

    private static void upwardFromTheHighestTrack() {
        for (int p = 3; p <= 4; p++) {
            checks.due("policy " + p, "255 0 247", orderOf(at(31, p), 0, 247, 255));
        }
    }

    /** After it went to a lower track it takes what is above, as before. */
    private static void upwardHasNoDirection() {
        for (int p = 3; p <= 4; p++) {
            BlockLayer x = at(10, p);
            orderOf(x, 40);
            checks.due("policy " + p, "80 32", orderOf(x, 32, 80));
        }
    }

    private static void nearestGoesBothWays() {
        checks.due("policy 1", "83 72 96 40 160", orderOf(at(10, 1), 160, 96, 83, 72, 40));
        checks.due("policy 1, of two the lesser number", "72 88", orderOf(at(10, 1), 72, 88));
    }

    /** A sync makes WRITEs by blocks, so here the evictions make them, in another order. */
    private static void ofOneTrackTheLeastNumber() {
        for (int p = 0; p <= 4; p++) {
            BlockLayer x = Layers.withWrites(87, 80, 84);
            x.policy(p);
            checks.due("policy " + p, "0 1 2", Layers.servedInOrder(x));
        }
    }

    private static void crashTurnsUp() {
        BlockLayer x = downAt(10);
        x.crash();
        checks.due("the head", 0, x.told(1));
        // Policy 2 itself would turn up on its way from the lowest track.
        x.policy(3);
        x.load(80);
        x.policy(2);
        checks.due("up from 10", "88 72", orderOf(x, 72, 88));
    }
}
