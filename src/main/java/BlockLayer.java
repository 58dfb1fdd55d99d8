import java.util.ArrayList;

/** Blocks of a disk behind buffers, with a queue of requests and a disk that has a cache of its own. */
public final class BlockLayer {
    public static final int NONE = -1;

    private static final int BLOCKS = 256;
    private static final int BLOCKS_OF_A_TRACK = 8;
    private static final int MOST_BUFFERS = 10;
    private static final int MOST_QUEUED = 40;
    private static final int MOST_CACHED = 6;
    private static final int LONGEST_STEP = 1000;
    private static final int OLD_AGE = 100;
    private static final int UNITS_ON_TRACK = 2;
    private static final int UNITS_OF_BARRIER = 1;

    private static final int READ = 0;
    private static final int WRITE = 1;
    private static final int BARRIER = 2;

    private static final int LEAST_NUMBER = 0;
    private static final int NEAREST = 1;
    private static final int UP_AND_DOWN = 2;
    private static final int UPWARD = 3;
    private static final int UPWARD_BUT_OLD_FIRST = 4;

    private final Copies buffers;
    private final Disk disk;
    private int nextNumber;
    private int hits;
    private int misses;
    private int evictions;
    private int absorbed;

    public BlockLayer() {
        buffers = new Copies();
        disk = new Disk();
    }

    public int load(int block) throws IndexOutOfBoundsException, UnsupportedOperationException {
        requireBlock(block);
        requireQueueRoom(2);
        Copy buffer = buffers.copyOf(block);
        if (buffer == null) {
            misses++;
            makeBufferRoom();
            Request read = makeRequest(READ, block, 0);
            for (int i = 0; i <= MOST_QUEUED && !read.ended; i++) {
                disk.passToNextEnd();
            }
            buffer = new Copy(block, read.value);
        } else {
            hits++;
        }
        buffers.putLast(buffer);
        return buffer.value;
    }

    public int save(int block, int v) throws IndexOutOfBoundsException, UnsupportedOperationException {
        requireBlock(block);
        // The document counts two for save too, and does not ask whether the block has a buffer.
        requireQueueRoom(2);
        Copy buffer = buffers.copyOf(block);
        if (buffer == null) {
            makeBufferRoom();
            buffer = new Copy(block, 0);
        }
        int before = buffer.value;
        buffer.value = v;
        buffer.dirty = true;
        buffers.putLast(buffer);
        return before;
    }

    public int sync() throws UnsupportedOperationException {
        requireQueueRoom(buffers.size() + 1);
        int written = 0;
        for (int i = 0; i < MOST_BUFFERS; i++) {
            Copy buffer = buffers.dirtyOfLeastBlock();
            if (buffer == null) {
                break;
            }
            writeBack(buffer);
            buffer.dirty = false;
            written++;
        }
        makeRequest(BARRIER, NONE, 0);
        return written;
    }

    public int step(int n) throws IllegalArgumentException {
        if (n < 1 || n > LONGEST_STEP) {
            throw new IllegalArgumentException("a step has 1 to 1000 units");
        }
        disk.pass(n);
        return disk.time;
    }

    public int drain() {
        int begun = disk.time;
        for (int i = 0; i <= MOST_QUEUED && disk.hasWork(); i++) {
            disk.passToNextEnd();
        }
        return disk.time - begun;
    }

    public int policy(int p) throws IllegalArgumentException {
        if (p < LEAST_NUMBER || p > UPWARD_BUT_OLD_FIRST) {
            throw new IllegalArgumentException("a policy is 0 to 4");
        }
        int before = disk.way;
        disk.way = p;
        return before;
    }

    public int crash() {
        int lost = 0;
        for (int block = 0; block < BLOCKS; block++) {
            if (newestOf(block) != disk.valueOnMedia(block)) {
                lost++;
            }
        }
        buffers.clear();
        disk.queue.clear();
        disk.loseAllButMedia();
        return lost;
    }

    public int newest(int block) throws IndexOutOfBoundsException {
        requireBlock(block);
        return newestOf(block);
    }

    public int media(int block) throws IndexOutOfBoundsException {
        requireBlock(block);
        return disk.valueOnMedia(block);
    }

    public int buffer(int block) throws IndexOutOfBoundsException {
        requireBlock(block);
        Copy buffer = buffers.copyOf(block);
        if (buffer == null) {
            return 0;
        }
        return buffer.dirty ? 2 : 1;
    }

    public int used(int i) {
        Copy buffer = buffers.at(i);
        return buffer == null ? NONE : buffer.block;
    }

    public int queued(int i) {
        Request waiting = disk.queue.at(i);
        return waiting == null ? NONE : waiting.number;
    }

    public int request(int number, int what) {
        Request found = liveRequest(number);
        if (found == null) {
            return NONE;
        }
        switch (what) {
            case 0: return found.kind;
            case 1: return found.block;
            case 2: return found.value;
            case 3: return found.made;
            default: return NONE;
        }
    }

    public int told(int what) {
        switch (what) {
            case 0: return disk.time;
            case 1: return disk.head;
            case 2: return disk.serving == null ? NONE : disk.serving.number;
            case 3: return disk.queue.size();
            case 4: return disk.cache.size();
            case 5: return buffers.size();
            case 6: return hits;
            case 7: return misses;
            case 8: return evictions;
            case 9: return absorbed;
            case 10: return disk.served;
            case 11: return disk.idleUnits;
            default: return NONE;
        }
    }

    private static void requireBlock(int block) {
        if (block < 0 || block >= BLOCKS) {
            throw new IndexOutOfBoundsException("there is no such block");
        }
    }

    private void requireQueueRoom(int more) {
        if (disk.queue.size() + more > MOST_QUEUED) {
            throw new UnsupportedOperationException("the queue might have more than 40 requests");
        }
    }

    private void makeBufferRoom() {
        if (buffers.size() < MOST_BUFFERS) {
            return;
        }
        Copy gone = buffers.takeFirst();
        if (gone == null) {
            return;
        }
        evictions++;
        if (gone.dirty) {
            writeBack(gone);
        }
    }

    private void writeBack(Copy buffer) {
        Request absorber = disk.queue.absorberOf(buffer.block);
        if (absorber == null) {
            makeRequest(WRITE, buffer.block, buffer.value);
        } else {
            absorber.value = buffer.value;
            absorbed++;
        }
    }

    private Request makeRequest(int kind, int block, int value) {
        Request made = new Request(nextNumber, kind, block, value, disk.time);
        nextNumber++;
        disk.queue.add(made);
        return made;
    }

    private Request liveRequest(int number) {
        Request serving = disk.serving;
        if (serving != null && serving.number == number) {
            return serving;
        }
        return disk.queue.ofNumber(number);
    }

    private int newestOf(int block) {
        Copy buffer = buffers.copyOf(block);
        if (buffer != null) {
            return buffer.value;
        }
        // A READ would wait behind every request of its block, so the last WRITE is what it would find.
        Request write = disk.queue.lastWriteOf(block);
        return write == null ? disk.valueAfterServing(block) : write.value;
    }

    private static int trackOf(int block) {
        return block / BLOCKS_OF_A_TRACK;
    }

    /** What is known of a block outside the media: a buffer, or an entry of the disk's cache (never dirty). */
    private static final class Copy {
        final int block;
        int value;
        boolean dirty;

        Copy(int block, int value) {
            this.block = block;
            this.value = value;
        }
    }

    /** Copies of different blocks, the one that was put first before the others. */
    private static final class Copies {
        private final ArrayList<Copy> inOrder = new ArrayList<Copy>();

        int size() {
            return inOrder.size();
        }

        Copy at(int i) {
            return i < 0 || i >= inOrder.size() ? null : inOrder.get(i);
        }

        Copy copyOf(int block) {
            for (int i = 0; i < inOrder.size(); i++) {
                if (inOrder.get(i).block == block) {
                    return inOrder.get(i);
                }
            }
            return null;
        }

        /** In place of what was there of its block. */
        void putLast(Copy copy) {
            for (int i = 0; i < inOrder.size(); i++) {
                if (inOrder.get(i).block == copy.block) {
                    inOrder.remove(i);
                    break;
                }
            }
            inOrder.add(copy);
        }

        Copy takeFirst() {
            return inOrder.isEmpty() ? null : inOrder.remove(0);
        }

        Copy dirtyOfLeastBlock() {
            Copy least = null;
            for (int i = 0; i < inOrder.size(); i++) {
                Copy copy = inOrder.get(i);
                if (copy.dirty && (least == null || copy.block < least.block)) {
                    least = copy;
                }
            }
            return least;
        }

        void clear() {
            inOrder.clear();
        }
    }

    private static final class Request {
        final int number;
        final int kind;
        final int block;
        final int made;
        /** Of a READ it is 0 until it has ended, then what the disk told. */
        int value;
        boolean ended;

        Request(int number, int kind, int block, int value, int made) {
            this.number = number;
            this.kind = kind;
            this.block = block;
            this.value = value;
            this.made = made;
        }
    }

    /** The requests that wait, which always stand in the order of their numbers. */
    private static final class Queue {
        private final ArrayList<Request> waiting = new ArrayList<Request>();

        int size() {
            return waiting.size();
        }

        Request at(int i) {
            return i < 0 || i >= waiting.size() ? null : waiting.get(i);
        }

        void add(Request made) {
            waiting.add(made);
        }

        Request take(int i) {
            return i < 0 || i >= waiting.size() ? null : waiting.remove(i);
        }

        void clear() {
            waiting.clear();
        }

        Request ofNumber(int number) {
            for (int i = 0; i < waiting.size(); i++) {
                if (waiting.get(i).number == number) {
                    return waiting.get(i);
                }
            }
            return null;
        }

        Request absorberOf(int block) {
            for (int i = waiting.size() - 1; i >= 0; i--) {
                Request request = waiting.get(i);
                if (request.kind == BARRIER) {
                    return null;
                }
                if (request.block == block) {
                    return request.kind == WRITE ? request : null;
                }
            }
            return null;
        }

        Request lastWriteOf(int block) {
            for (int i = waiting.size() - 1; i >= 0; i--) {
                Request request = waiting.get(i);
                if (request.kind == WRITE && request.block == block) {
                    return request;
                }
            }
            return null;
        }

        boolean isReady(int place) {
            if (place < 0 || place >= waiting.size()) {
                return false;
            }
            Request request = waiting.get(place);
            if (request.kind == BARRIER) {
                return place == 0;
            }
            for (int i = 0; i < place; i++) {
                Request before = waiting.get(i);
                if (before.kind == BARRIER || before.block == request.block) {
                    return false;
                }
            }
            return true;
        }
    }

    /** The disk with the queue before it, its head, cache and media; time is here, for nothing else uses it up. */
    private static final class Disk {
        private static final int EITHER_WAY = 0;
        private static final int ABOVE = 1;
        private static final int BELOW = 2;
        private static final int FROM_LOWEST = 3;

        final Queue queue = new Queue();
        private final int[] onMedia = new int[BLOCKS];
        final Copies cache = new Copies();
        /** Null while the disk is idle. */
        Request serving;
        private int unitsLeft;
        int time;
        int head;
        private boolean goesUp = true;
        int way = UPWARD;
        int served;
        int idleUnits;

        boolean hasWork() {
            return serving != null || queue.size() > 0;
        }

        void pass(int units) {
            int left = units;
            for (int i = 0; i < units && left > 0; i++) {
                beginIfIdle();
                left -= passUntilEnd(left);
            }
        }

        void passToNextEnd() {
            beginIfIdle();
            if (serving != null) {
                passUntilEnd(unitsLeft);
            }
        }

        int valueOnMedia(int block) {
            return onMedia[block];
        }

        int valueAfterServing(int block) {
            if (serving != null && serving.kind == WRITE && serving.block == block) {
                return serving.value;
            }
            return valueInside(block);
        }

        void loseAllButMedia() {
            cache.clear();
            serving = null;
            unitsLeft = 0;
            head = 0;
            goesUp = true;
        }

        private int valueInside(int block) {
            Copy cached = cache.copyOf(block);
            return cached == null ? onMedia[block] : cached.value;
        }

        private int passUntilEnd(int most) {
            if (serving == null) {
                time += most;
                idleUnits += most;
                return most;
            }
            int units = Math.min(most, unitsLeft);
            time += units;
            unitsLeft -= units;
            if (unitsLeft <= 0) {
                end(serving);
            }
            return units;
        }

        private void beginIfIdle() {
            if (serving != null) {
                return;
            }
            Request chosen = queue.take(chosenPlace());
            if (chosen == null) {
                return;
            }
            if (chosen.kind == BARRIER) {
                unitsLeft = cache.size() + UNITS_OF_BARRIER;
            } else {
                int track = trackOf(chosen.block);
                unitsLeft = Math.abs(track - head) + UNITS_ON_TRACK;
                head = track;
            }
            serving = chosen;
        }

        private void end(Request request) {
            serving = null;
            served++;
            request.ended = true;
            if (request.kind == READ) {
                request.value = valueInside(request.block);
            } else if (request.kind == WRITE) {
                cache.putLast(new Copy(request.block, request.value));
                moveToMedia(cache.size() - MOST_CACHED);
            } else {
                moveToMedia(cache.size());
            }
        }

        private void moveToMedia(int count) {
            for (int i = 0; i < count; i++) {
                Copy first = cache.takeFirst();
                if (first != null) {
                    onMedia[first.block] = first.value;
                }
            }
        }

        private int chosenPlace() {
            Request first = queue.at(0);
            if (first == null) {
                return NONE;
            }
            // What stands first is always ready and has the least number; behind a barrier nothing is ready.
            if (first.kind == BARRIER || way == LEAST_NUMBER || isOldUnderPolicy(first)) {
                return 0;
            }
            int place = nearestPlace(sideOfPolicy());
            if (place != NONE) {
                return place;
            }
            if (way == UP_AND_DOWN) {
                goesUp = !goesUp;
                return nearestPlace(sideOfPolicy());
            }
            return nearestPlace(FROM_LOWEST);
        }

        private boolean isOldUnderPolicy(Request request) {
            return way == UPWARD_BUT_OLD_FIRST && time - request.made >= OLD_AGE;
        }

        private int sideOfPolicy() {
            if (way == NEAREST) {
                return EITHER_WAY;
            }
            return way == UP_AND_DOWN && !goesUp ? BELOW : ABOVE;
        }

        private int nearestPlace(int side) {
            int nearest = NONE;
            int least = 0;
            for (int i = 0; i < queue.size(); i++) {
                Request request = queue.at(i);
                if (request != null && queue.isReady(i)) {
                    int away = tracksAway(trackOf(request.block), side);
                    // Only less counts, so that of equals the least number stays.
                    if (away >= 0 && (nearest == NONE || away < least)) {
                        nearest = i;
                        least = away;
                    }
                }
            }
            return nearest;
        }

        /** Less than 0 when the track is not on that side of the head. */
        private int tracksAway(int track, int side) {
            switch (side) {
                case ABOVE: return track - head;
                case BELOW: return head - track;
                case FROM_LOWEST: return track;
                default: return Math.abs(track - head);
            }
        }
    }
}
