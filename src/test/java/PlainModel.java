import java.util.ArrayList;
import java.util.LinkedHashMap;
import java.util.List;
import java.util.Map;
import java.util.TreeMap;

/** The document's words once more, unit by unit and without any care for speed, to compare with. */
final class PlainModel {
    private static final int READ = 0;
    private static final int WRITE = 1;
    private static final int BARRIER = 2;

    private static final class Req {
        int number;
        int kind;
        int block;
        int value;
        int made;
        Integer result;

        int track() {
            return Math.floorDiv(block, 8);
        }
    }

    private static final class Buf {
        int value;
        boolean dirty;
    }

    /** In the order of their latest use. */
    private final LinkedHashMap<Integer, Buf> buffers = new LinkedHashMap<>();
    private final List<Req> queue = new ArrayList<>();
    /** In the order in which they came to the cache. */
    private final LinkedHashMap<Integer, Integer> cache = new LinkedHashMap<>();
    private final Map<Integer, Integer> media = new TreeMap<>();
    private Req serving;
    private int unitsToGo;
    private int head;
    private boolean up = true;
    private int policy = 3;
    private int time;
    private int numbers;
    private final int[] counts = new int[12];

    int load(int block) {
        checkBlock(block);
        checkRoom(2);
        Buf buf = buffers.remove(block);
        if (buf != null) {
            counts[6]++;
            buffers.put(block, buf);
            return buf.value;
        }
        counts[7]++;
        makeRoom();
        Req read = request(READ, block, 0);
        while (read.result == null) {
            unit();
        }
        buf = new Buf();
        buf.value = read.result;
        buffers.put(block, buf);
        return buf.value;
    }

    int save(int block, int v) {
        checkBlock(block);
        checkRoom(2);
        Buf buf = buffers.remove(block);
        if (buf == null) {
            makeRoom();
            buf = new Buf();
        }
        int before = buf.value;
        buf.value = v;
        buf.dirty = true;
        buffers.put(block, buf);
        return before;
    }

    int sync() {
        checkRoom(buffers.size() + 1);
        int count = 0;
        for (int block : new TreeMap<>(buffers).keySet()) {
            Buf buf = buffers.get(block);
            if (buf.dirty) {
                write(block, buf.value);
                buf.dirty = false;
                count++;
            }
        }
        request(BARRIER, -1, 0);
        return count;
    }

    int step(int n) {
        if (n < 1 || n > 1000) {
            throw new IllegalArgumentException();
        }
        for (int i = 0; i < n; i++) {
            unit();
        }
        return time;
    }

    int drain() {
        int units = 0;
        while (serving != null || !queue.isEmpty()) {
            unit();
            units++;
        }
        return units;
    }

    int policy(int p) {
        if (p < 0 || p > 4) {
            throw new IllegalArgumentException();
        }
        int before = policy;
        policy = p;
        return before;
    }

    int crash() {
        int lost = 0;
        for (int block = 0; block < 256; block++) {
            lost += newest(block) == media(block) ? 0 : 1;
        }
        buffers.clear();
        queue.clear();
        cache.clear();
        serving = null;
        head = 0;
        up = true;
        return lost;
    }

    int newest(int block) {
        checkBlock(block);
        int value = cache.getOrDefault(block, media(block));
        if (serving != null && serving.kind == WRITE && serving.block == block) {
            value = serving.value;
        }
        for (Req r : queue) {
            value = r.kind == WRITE && r.block == block ? r.value : value;
        }
        return buffers.containsKey(block) ? buffers.get(block).value : value;
    }

    int media(int block) {
        checkBlock(block);
        return media.getOrDefault(block, 0);
    }

    int buffer(int block) {
        checkBlock(block);
        return !buffers.containsKey(block) ? 0 : buffers.get(block).dirty ? 2 : 1;
    }

    int used(int i) {
        List<Integer> blocks = new ArrayList<>(buffers.keySet());
        return i >= 0 && i < blocks.size() ? blocks.get(i) : -1;
    }

    int queued(int i) {
        return i >= 0 && i < queue.size() ? queue.get(i).number : -1;
    }

    int request(int number, int what) {
        List<Req> live = new ArrayList<>(queue);
        if (serving != null) {
            live.add(serving);
        }
        for (Req r : live) {
            if (r.number == number && what >= 0 && what <= 3) {
                return new int[] {r.kind, r.block, r.value, r.made}[what];
            }
        }
        return -1;
    }

    int told(int what) {
        switch (what) {
            case 0: return time;
            case 1: return head;
            case 2: return serving == null ? -1 : serving.number;
            case 3: return queue.size();
            case 4: return cache.size();
            case 5: return buffers.size();
            default: return what >= 6 && what <= 11 ? counts[what] : -1;
        }
    }

    private void checkBlock(int block) {
        if (block < 0 || block > 255) {
            throw new IndexOutOfBoundsException();
        }
    }

    private void checkRoom(int more) {
        if (queue.size() + more > 40) {
            throw new UnsupportedOperationException();
        }
    }

    private void makeRoom() {
        if (buffers.size() == 10) {
            int block = buffers.keySet().iterator().next();
            Buf gone = buffers.remove(block);
            counts[8]++;
            if (gone.dirty) {
                write(block, gone.value);
            }
        }
    }

    private void write(int block, int value) {
        Req last = null;
        for (Req r : queue) {
            if (r.kind == BARRIER) {
                last = null;
            } else if (r.block == block) {
                last = r;
            }
        }
        if (last != null && last.kind == WRITE) {
            last.value = value;
            counts[9]++;
        } else {
            request(WRITE, block, value);
        }
    }

    private Req request(int kind, int block, int value) {
        Req r = new Req();
        r.number = numbers++;
        r.kind = kind;
        r.block = block;
        r.value = value;
        r.made = time;
        queue.add(r);
        return r;
    }

    private void unit() {
        if (serving == null) {
            begin();
        }
        time++;
        if (serving == null) {
            counts[11]++;
            return;
        }
        unitsToGo--;
        if (unitsToGo == 0) {
            end();
        }
    }

    private void begin() {
        Req chosen = choose(ready());
        if (chosen == null) {
            return;
        }
        queue.remove(chosen);
        serving = chosen;
        if (chosen.kind == BARRIER) {
            unitsToGo = cache.size() + 1;
        } else {
            unitsToGo = Math.abs(chosen.track() - head) + 2;
            head = chosen.track();
        }
    }

    private void end() {
        Req r = serving;
        serving = null;
        counts[10]++;
        if (r.kind == READ) {
            r.result = cache.getOrDefault(r.block, media(r.block));
        } else if (r.kind == BARRIER) {
            media.putAll(cache);
            cache.clear();
        } else {
            cache.remove(r.block);
            cache.put(r.block, r.value);
            if (cache.size() > 6) {
                int first = cache.keySet().iterator().next();
                media.put(first, cache.remove(first));
            }
        }
    }

    private List<Req> ready() {
        List<Req> ready = new ArrayList<>();
        for (int i = 0; i < queue.size(); i++) {
            Req r = queue.get(i);
            List<Req> before = queue.subList(0, i);
            boolean free = r.kind == BARRIER ? before.isEmpty()
                : before.stream().noneMatch(o -> o.kind == BARRIER || o.block == r.block);
            if (free) {
                ready.add(r);
            }
        }
        return ready;
    }

    private Req choose(List<Req> ready) {
        for (Req r : ready) {
            if (r.kind == BARRIER) {
                return r;
            }
        }
        if (ready.isEmpty()) {
            return null;
        }
        Req least = best(ready, r -> 0);
        switch (policy) {
            case 0:
                return least;
            case 1:
                return best(ready, r -> Math.abs(r.track() - head));
            case 2:
                if (best(ready, r -> onTheWay(r) ? 0 : -1) == null) {
                    up = !up;
                }
                return best(ready, r -> onTheWay(r) ? Math.abs(r.track() - head) : -1);
            default:
                if (policy == 4 && least.made <= time - 100) {
                    return least;
                }
                Req above = best(ready, r -> r.track() - head);
                return above != null ? above : best(ready, Req::track);
        }
    }

    private boolean onTheWay(Req r) {
        return up ? r.track() >= head : r.track() <= head;
    }

    private interface Measure {
        int of(Req r);
    }

    /** The least by the measure, which is less than 0 for those that do not count; of equals the least number. */
    private Req best(List<Req> ready, Measure measure) {
        Req best = null;
        for (Req r : ready) {
            int m = measure.of(r);
            if (m < 0) {
                continue;
            }
            if (best == null || m < measure.of(best) || m == measure.of(best) && r.number < best.number) {
                best = r;
            }
        }
        return best;
    }
}
