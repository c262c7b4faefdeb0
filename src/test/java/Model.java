import java.util.ArrayDeque;
import java.util.ArrayList;
import java.util.Arrays;
import java.util.Deque;
import java.util.List;
import java.util.regex.Matcher;
import java.util.regex.Pattern;

/**
 * A second program of the document, as plain as can be: each state is a copy of its own, the texts
 * are read by a pattern, and what would be is tried out on a copy. Calls that are refused throw.
 */
final class Model {
    private static final String PART = "(a[01]:(1[0-9]?|20?|[3-9])|l[01]|u|x|w(1[0-9]?|2[0-4]?|[3-9])|d[1-5])";
    private static final Pattern ORDERS = Pattern.compile(PART + "(;" + PART + ")*");
    private static final int[][] RANGES = {{50, 999}, {0, 80}, {1, 50}};

    private record Vehicle(int weight, int bank) {
    }

    private static final class Side {
        int[] currents = new int[24];
        int[] settings = {300, 12, 10};
        int[] wears = new int[20];
        List<List<Vehicle>> banks = List.of(new ArrayList<>(), new ArrayList<>());
        List<List<Vehicle>> lanes = List.of(new ArrayList<>(), new ArrayList<>());
        // As count() numbers them: hours, bank, -, -, -, slack, stretch, drum, and what is counted.
        int[] counts = {0, 0, 0, 0, 0, 0, 0, 40, 0, 0, 0, 0, 0};

        Side() {
            Arrays.fill(currents, 10);
        }

        Side copy() {
            Side c = new Side();
            c.currents = currents.clone();
            c.settings = settings.clone();
            c.wears = wears.clone();
            c.counts = counts.clone();
            for (int i = 0; i < 2; i++) {
                c.banks.get(i).addAll(banks.get(i));
                c.lanes.get(i).addAll(lanes.get(i));
            }
            return c;
        }

        int weight(int lane) {
            return lanes.get(lane).stream().mapToInt(Vehicle::weight).sum();
        }

        int list() {
            return Math.abs(weight(0) - weight(1));
        }

        int strength(int k) {
            return Math.max(0, settings[0] - wears[k] / 2);
        }

        int tension(int k, int ahead) {
            int c = currents[(counts[0] + ahead) % 24];
            int t = c * Math.min(k + 1, 20 - k) / 10;
            t = t * (20 + weight(0) + weight(1)) / 10;
            return Math.max(0, t + 3 * list() - 4 * counts[5]);
        }

        int greatest(int ahead) {
            int greatest = tension(0, ahead);
            for (int k = 1; k < 20; k++) {
                greatest = Math.max(greatest, tension(k, ahead));
            }
            return greatest;
        }

        int why() {
            if (list() > settings[1]) {
                return 1;
            }
            if (counts[5] > 25) {
                return 2;
            }
            for (int k = 0; k < 20; k++) {
                if (tension(k, 0) > strength(k)) {
                    return 3;
                }
            }
            return 0;
        }

        void hour() {
            counts[0]++;
            counts[12] += banks.get(0).size() + banks.get(1).size();
        }

        int cross() {
            int[] tensions = new int[20];
            for (int k = 0; k < 20; k++) {
                tensions[k] = tension(k, 0);
            }
            for (int k = 0; k < 20; k++) {
                wears[k] = Math.min(1000, wears[k] + tensions[k] / settings[2]);
                counts[6] += tensions[k];
            }
            while (counts[6] >= 500) {
                counts[6] -= 500;
                counts[5] = Math.min(30, counts[5] + 1);
            }
            int hours = 1 + counts[5] / 10;
            for (int i = 0; i < hours; i++) {
                hour();
            }
            counts[1] = counts[1] == 0 ? 1 : 0;
            counts[8]++;
            return hours;
        }

        void draw(int n) {
            List<Integer> wire = new ArrayList<>();
            for (int wear : wears) {
                wire.add(wear);
            }
            for (int i = 0; i < n; i++) {
                wire.remove(0);
                wire.add(0);
                hour();
            }
            for (int k = 0; k < 20; k++) {
                wears[k] = wire.get(k);
            }
            counts[7] -= n;
            counts[5] = 0;
            counts[6] = 0;
        }

        int unload() {
            int carried = 0;
            for (List<Vehicle> lane : lanes) {
                for (Vehicle v : lane) {
                    boolean other = v.bank() != counts[1];
                    carried += other ? 1 : 0;
                    counts[other ? 10 : 11]++;
                }
                lane.clear();
            }
            return carried;
        }

        int leastList(int n) {
            if (lanes.get(0).size() > 4 || lanes.get(1).size() > 4) {
                return -1;
            }
            if (n == 0) {
                return list();
            }
            if (n > banks.get(counts[1]).size()) {
                return -1;
            }
            int least = -1;
            for (int lane = 0; lane < 2; lane++) {
                Side c = copy();
                c.lanes.get(lane).add(c.banks.get(counts[1]).remove(0));
                int list = c.leastList(n - 1);
                least = least < 0 || list >= 0 && list < least ? list : least;
            }
            return least;
        }
    }

    private Side now = new Side();
    private Side kept = null;
    private final Deque<Side> saved = new ArrayDeque<>();
    private String buffer = "";

    private void save() {
        saved.addLast(now.copy());
        if (saved.size() > 6) {
            saved.removeFirst();
        }
    }

    private static void index(int value, int size) {
        if (value < 0 || value >= size) {
            throw new IndexOutOfBoundsException();
        }
    }

    private static void argument(boolean good) {
        if (!good) {
            throw new IllegalArgumentException();
        }
    }

    private static void state(boolean good) {
        if (!good) {
            throw new IllegalStateException();
        }
    }

    int current(int hour, int current) {
        index(hour, 24);
        argument(current >= 0 && current <= 40);
        save();
        int was = now.currents[hour];
        now.currents[hour] = current;
        return was;
    }

    int arrive(int bank, int weight) {
        index(bank, 2);
        argument(weight >= 1 && weight <= 20);
        state(now.banks.get(bank).size() < 10);
        save();
        now.banks.get(bank).add(new Vehicle(weight, bank));
        now.counts[9]++;
        return now.banks.get(bank).size();
    }

    int load(int lane) {
        index(lane, 2);
        List<Vehicle> here = now.banks.get(now.counts[1]);
        state(!here.isEmpty() && now.lanes.get(lane).size() < 4);
        save();
        Vehicle v = here.remove(0);
        now.lanes.get(lane).add(v);
        return v.weight();
    }

    int unload() {
        save();
        return now.unload();
    }

    int cross() {
        state(now.why() == 0);
        save();
        return now.cross();
    }

    int pass(int hours) {
        argument(hours >= 1 && hours <= 100);
        save();
        for (int i = 0; i < hours; i++) {
            now.hour();
        }
        return now.counts[0];
    }

    int draw(int n) {
        argument(n >= 1 && n <= 5);
        state(now.counts[7] >= n);
        save();
        now.draw(n);
        return now.counts[7];
    }

    int set(int setting, int value) {
        index(setting, 3);
        argument(value >= RANGES[setting][0] && value <= RANGES[setting][1]);
        save();
        int was = now.settings[setting];
        now.settings[setting] = value;
        return was;
    }

    int append(int code) {
        argument(code >= 33 && code <= 126);
        state(buffer.length() < 60);
        buffer += (char) code;
        return buffer.length();
    }

    int clearBuffer() {
        int length = buffer.length();
        buffer = "";
        return length;
    }

    int firstError() {
        for (int i = 1; i <= buffer.length(); i++) {
            Matcher m = ORDERS.matcher(buffer.substring(0, i));
            if (!m.matches() && !m.hitEnd()) {
                return i - 1;
            }
        }
        return buffer.length();
    }

    int obey() {
        argument(ORDERS.matcher(buffer).matches());
        Side before = now.copy();
        List<Side> savedBefore = new ArrayList<>(saved);
        int done = 0;
        try {
            for (String order : buffer.split(";")) {
                obey(order);
                done++;
            }
        } catch (IllegalStateException e) {
            // The order that throws is the end.
        }
        saved.clear();
        saved.addAll(savedBefore);
        Side after = now;
        now = before;
        save();
        now = after;
        buffer = "";
        return done;
    }

    private void obey(String order) {
        String rest = order.substring(1);
        switch (order.charAt(0)) {
            case 'a' -> arrive(rest.charAt(0) - '0', Integer.parseInt(rest.substring(2)));
            case 'l' -> load(Integer.parseInt(rest));
            case 'u' -> unload();
            case 'x' -> cross();
            case 'w' -> pass(Integer.parseInt(rest));
            default -> draw(Integer.parseInt(rest));
        }
    }

    int keep() {
        kept = now.copy();
        return now.counts[0];
    }

    int goBack() {
        state(kept != null);
        save();
        now = kept.copy();
        return now.counts[0];
    }

    int undo() {
        state(!saved.isEmpty());
        now = saved.removeLast();
        return saved.size();
    }

    int section(int k, int what) {
        index(k, 20);
        argument(what >= 0 && what <= 2);
        return what == 0 ? now.wears[k] : what == 1 ? now.strength(k) : now.tension(k, 0);
    }

    int waiting(int bank, int place) {
        index(bank, 2);
        argument(place >= 0);
        List<Vehicle> line = now.banks.get(bank);
        return place < line.size() ? line.get(place).weight() : -1;
    }

    int deck(int lane, int place, int what) {
        index(lane, 2);
        argument(place >= 0 && (what == 0 || what == 1));
        List<Vehicle> line = now.lanes.get(lane);
        if (place >= line.size()) {
            return -1;
        }
        return what == 0 ? line.get(place).weight() : line.get(place).bank();
    }

    int count(int what) {
        argument(what >= 0 && what <= 13);
        return switch (what) {
            case 2 -> now.lanes.get(0).size() + now.lanes.get(1).size();
            case 3 -> now.weight(0) + now.weight(1);
            case 4 -> now.list();
            case 13 -> saved.size();
            default -> now.counts[what];
        };
    }

    int currentOf(int hour) {
        index(hour, 24);
        return now.currents[hour];
    }

    int setting(int setting) {
        index(setting, 3);
        return now.settings[setting];
    }

    int why() {
        return now.why();
    }

    int weakest() {
        int weakest = 19;
        for (int k = 18; k >= 0; k--) {
            if (section(k, 1) - section(k, 2) <= section(weakest, 1) - section(weakest, 2)) {
                weakest = k;
            }
        }
        return weakest;
    }

    int ifLoaded(int lane) {
        index(lane, 2);
        Side c = now.copy();
        List<Vehicle> here = c.banks.get(c.counts[1]);
        if (here.isEmpty() || c.lanes.get(lane).size() == 4) {
            return -1;
        }
        c.lanes.get(lane).add(here.remove(0));
        return c.greatest(0);
    }

    int bestHour() {
        int best = 23;
        for (int ahead = 22; ahead >= 0; ahead--) {
            if (now.greatest(ahead) <= now.greatest(best)) {
                best = ahead;
            }
        }
        return best;
    }

    int leastList(int n) {
        argument(n >= 0 && n <= 8);
        return now.leastList(n);
    }

    int lasts() {
        Side c = now.copy();
        int times = 0;
        while (times < 100 && c.why() == 0) {
            c.cross();
            times++;
        }
        return times;
    }

    int needed() {
        for (int n = 0; n <= Math.min(5, now.counts[7]); n++) {
            Side c = now.copy();
            if (n > 0) {
                c.draw(n);
            }
            if (c.why() == 0) {
                return n;
            }
        }
        return -1;
    }

    float wornShare() {
        return (float) Arrays.stream(now.wears).sum() / 20000;
    }

    double carriedShare() {
        int all = now.counts[10] + now.counts[11];
        return all == 0 ? 1.0 : (double) now.counts[10] / all;
    }

    String buffer() {
        return buffer;
    }

    boolean hasKept() {
        return kept != null;
    }
}
