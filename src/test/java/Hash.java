import java.util.ArrayList;
import java.util.List;

/** The hash of promise 32, from what the other calls answer. */
final class Hash {
    // More than wait at a bank or stand on a lane: a look at them ends even if the class is wrong.
    private static final int MOST = 20;
    private final List<Long> values = new ArrayList<>();

    private Hash() {
    }

    static long of(CableFerry x, String buffer, boolean kept) {
        long hash = 3301;
        for (long value : values(x, buffer, kept)) {
            hash = 31 * hash + value;
        }
        return hash;
    }

    /** What is hashed, in its order. */
    static List<Long> values(CableFerry x, String buffer, boolean kept) {
        Hash h = new Hash();
        for (int what = 0; what <= 13; what++) {
            h.add(x.count(what));
        }
        for (int i = 0; i < 3; i++) {
            h.add(x.setting(i));
        }
        for (int i = 0; i < 24; i++) {
            h.add(x.currentOf(i));
        }
        for (int k = 0; k < 20; k++) {
            h.add(x.section(k, 0));
            h.add(x.section(k, 1));
            h.add(x.section(k, 2));
        }
        h.addVehicles(x);
        h.add(x.why());
        h.add(x.weakest());
        h.add(x.ifLoaded(0));
        h.add(x.ifLoaded(1));
        h.add(x.bestHour());
        for (int n = 1; n <= 4; n++) {
            h.add(x.leastList(n));
        }
        h.add(x.lasts());
        h.add(x.needed());
        h.add(Float.floatToIntBits(x.wornShare()));
        h.add(Double.doubleToLongBits(x.carriedShare()));
        h.add(kept ? 1 : 0);
        h.add(buffer.length());
        for (char c : buffer.toCharArray()) {
            h.add(c);
        }
        return h.values;
    }

    private void addVehicles(CableFerry x) {
        for (int bank = 0; bank < 2; bank++) {
            int size = 0;
            while (size < MOST && x.waiting(bank, size) != CableFerry.NONE) {
                size++;
            }
            add(size);
            for (int i = 0; i < size; i++) {
                add(x.waiting(bank, i));
            }
        }
        for (int lane = 0; lane < 2; lane++) {
            int size = 0;
            while (size < MOST && x.deck(lane, size, 0) != CableFerry.NONE) {
                size++;
            }
            add(size);
            for (int i = 0; i < size; i++) {
                add(x.deck(lane, i, 0));
                add(x.deck(lane, i, 1));
            }
        }
    }

    private void add(long value) {
        values.add(value);
    }
}
