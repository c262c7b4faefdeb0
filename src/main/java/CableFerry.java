/**
 * A cable ferry that hangs on a wire across a river.
 *
 * <p>The class checks the arguments of each call and saves states for undo();
 * the rules of the river stand in State, Wire and Line, those of the texts in
 * Orders.
 */
public final class CableFerry {
    public static final int NONE = -1;

    private static final int BANKS = 2;
    private static final int BANK_ROOM = 10;
    private static final int LANES = 2;
    private static final int LANE_ROOM = 4;
    private static final int GREATEST_WEIGHT = 20;
    private static final int HOURS_OF_DAY = 24;
    private static final int GREATEST_CURRENT = 40;
    private static final int FIRST_CURRENT = 10;
    private static final int LONGEST_PASS = 100;
    private static final int SECTIONS = 20;
    private static final int SECTIONS_ON_DRUM = 40;
    private static final int MOST_DRAWN = 5;
    private static final int MOST_CROSSINGS = 100;
    private static final int MOST_SAVED = 6;
    private static final int LONGEST_TEXT = 60;

    private static final int STRENGTH = 0;
    private static final int GREATEST_LIST = 1;
    private static final int BEARING = 2;
    private static final int SETTINGS = 3;
    private static final int[] FIRST_SETTINGS = {300, 12, 10};
    private static final int[] LEAST_SETTINGS = {50, 0, 1};
    private static final int[] GREATEST_SETTINGS = {999, 80, 50};

    private final State now;
    private final State trial;
    private final State snapshot;
    private final History history;
    private final Orders orders;
    private boolean hasSnapshot;

    public CableFerry() {
        now = new State();
        trial = new State();
        snapshot = new State();
        history = new History();
        orders = new Orders();
        hasSnapshot = false;
    }

    // ---- the river, vehicles

    public int current(int hour, int current) throws IndexOutOfBoundsException, IllegalArgumentException {
        if (!isWithin(hour, 0, HOURS_OF_DAY - 1)) {
            throw new IndexOutOfBoundsException("no such hour of the day");
        }
        if (!isWithin(current, 0, GREATEST_CURRENT)) {
            throw new IllegalArgumentException("current is out of range");
        }
        history.save(now);
        int previous = at(now.currents, hour);
        put(now.currents, hour, current);
        return previous;
    }

    public int arrive(int bank, int weight)
            throws IndexOutOfBoundsException, IllegalArgumentException, IllegalStateException {
        if (!isWithin(bank, 0, BANKS - 1)) {
            throw new IndexOutOfBoundsException("no such bank");
        }
        if (!isWithin(weight, 1, GREATEST_WEIGHT)) {
            throw new IllegalArgumentException("weight is out of range");
        }
        if (!now.canArrive(bank)) {
            throw new IllegalStateException("10 wait there");
        }
        history.save(now);
        now.letArrive(bank, weight);
        return now.lineAtBank(bank).size();
    }

    public int load(int lane) throws IndexOutOfBoundsException, IllegalStateException {
        if (!isWithin(lane, 0, LANES - 1)) {
            throw new IndexOutOfBoundsException("no such lane");
        }
        if (!now.canDriveOn(lane)) {
            throw new IllegalStateException("none waits there, or the lane has 4");
        }
        history.save(now);
        return now.driveOn(lane);
    }

    public int unload() {
        history.save(now);
        return now.driveOff();
    }

    // ---- the ferry, the wire

    public int cross() throws IllegalStateException {
        if (now.reason() != 0) {
            throw new IllegalStateException("it cannot cross");
        }
        history.save(now);
        return now.crossRiver();
    }

    public int pass(int hours) throws IllegalArgumentException {
        if (!isWithin(hours, 1, LONGEST_PASS)) {
            throw new IllegalArgumentException("hours is out of range");
        }
        history.save(now);
        now.letPass(hours);
        return now.hours;
    }

    public int draw(int sections) throws IllegalArgumentException, IllegalStateException {
        if (!isWithin(sections, 1, MOST_DRAWN)) {
            throw new IllegalArgumentException("sections is out of range");
        }
        if (!now.canDrawThrough(sections)) {
            throw new IllegalStateException("there are not so many on the drum");
        }
        history.save(now);
        now.drawThrough(sections);
        return now.wire.drum;
    }

    public int set(int setting, int value) throws IndexOutOfBoundsException, IllegalArgumentException {
        if (!isWithin(setting, 0, SETTINGS - 1)) {
            throw new IndexOutOfBoundsException("no such setting");
        }
        if (!isWithin(value, at(LEAST_SETTINGS, setting), at(GREATEST_SETTINGS, setting))) {
            throw new IllegalArgumentException("value is out of range");
        }
        history.save(now);
        int previous = at(now.settings, setting);
        put(now.settings, setting, value);
        return previous;
    }

    // ---- texts, the snapshot

    public int append(int code) throws IllegalArgumentException, IllegalStateException {
        if (!isWithin(code, 33, 126)) {
            throw new IllegalArgumentException("code is not 33 to 126");
        }
        if (orders.length() >= LONGEST_TEXT) {
            throw new IllegalStateException("the buffer has 60 characters");
        }
        orders.add(code);
        return orders.length();
    }

    public int clearBuffer() {
        int length = orders.length();
        orders.clear();
        return length;
    }

    public int firstError() {
        return orders.firstWrong();
    }

    public int obey() throws IllegalArgumentException {
        if (!orders.areComplete()) {
            throw new IllegalArgumentException("the buffer is not complete orders as a text");
        }
        history.save(now);
        int done = doOrders();
        orders.clear();
        return done;
    }

    public int keep() {
        snapshot.copyFrom(now);
        hasSnapshot = true;
        return now.hours;
    }

    public int goBack() throws IllegalStateException {
        if (!hasSnapshot) {
            throw new IllegalStateException("there is no snapshot");
        }
        history.save(now);
        now.copyFrom(snapshot);
        return now.hours;
    }

    public int undo() throws IllegalStateException {
        if (history.size() == 0) {
            throw new IllegalStateException("there is no saved state");
        }
        history.restore(now);
        return history.size();
    }

    // ---- looks; nothing is changed

    public int section(int section, int what) throws IndexOutOfBoundsException, IllegalArgumentException {
        if (!isWithin(section, 0, SECTIONS - 1)) {
            throw new IndexOutOfBoundsException("no such section");
        }
        switch (what) {
            case 0: return now.wire.wearOf(section);
            case 1: return now.strengthOf(section);
            case 2: return now.tensionOf(section);
            default: throw new IllegalArgumentException("what is not 0 to 2");
        }
    }

    public int waiting(int bank, int place) throws IndexOutOfBoundsException, IllegalArgumentException {
        if (!isWithin(bank, 0, BANKS - 1)) {
            throw new IndexOutOfBoundsException("no such bank");
        }
        if (place < 0) {
            throw new IllegalArgumentException("place is below 0");
        }
        return now.lineAtBank(bank).weightOf(place);
    }

    public int deck(int lane, int place, int what) throws IndexOutOfBoundsException, IllegalArgumentException {
        if (!isWithin(lane, 0, LANES - 1)) {
            throw new IndexOutOfBoundsException("no such lane");
        }
        if (place < 0 || !isWithin(what, 0, 1)) {
            throw new IllegalArgumentException("place is below 0, or what is not 0 or 1");
        }
        Line line = now.lineOnLane(lane);
        return what == 0 ? line.weightOf(place) : line.bankOf(place);
    }

    public int count(int what) throws IllegalArgumentException {
        switch (what) {
            case 0: return now.hours;
            case 1: return now.ferryBank;
            case 2: return now.vehiclesOnDeck();
            case 3: return now.weightOnDeck();
            case 4: return now.list();
            case 5: return now.wire.slack;
            case 6: return now.wire.stretch;
            case 7: return now.wire.drum;
            case 8: return now.crossings;
            case 9: return now.arrived;
            case 10: return now.carried;
            case 11: return now.turnedBack;
            case 12: return now.hoursWaited;
            case 13: return history.size();
            default: throw new IllegalArgumentException("what is not 0 to 13");
        }
    }

    public int currentOf(int hour) throws IndexOutOfBoundsException {
        if (!isWithin(hour, 0, HOURS_OF_DAY - 1)) {
            throw new IndexOutOfBoundsException("no such hour of the day");
        }
        return at(now.currents, hour);
    }

    public int setting(int setting) throws IndexOutOfBoundsException {
        if (!isWithin(setting, 0, SETTINGS - 1)) {
            throw new IndexOutOfBoundsException("no such setting");
        }
        return at(now.settings, setting);
    }

    public int why() {
        return now.reason();
    }

    public int weakest() {
        int weakest = 0;
        int least = now.reserveOf(0);
        for (int k = 1; k < SECTIONS; k++) {
            int reserve = now.reserveOf(k);
            if (reserve < least) {
                least = reserve;
                weakest = k;
            }
        }
        return weakest;
    }

    // ---- what would be; nothing is changed

    public int ifLoaded(int lane) throws IndexOutOfBoundsException {
        if (!isWithin(lane, 0, LANES - 1)) {
            throw new IndexOutOfBoundsException("no such lane");
        }
        if (!now.canDriveOn(lane)) {
            return NONE;
        }
        trial.copyFrom(now);
        trial.driveOn(lane);
        return trial.greatestTension(0);
    }

    public int bestHour() {
        int best = 0;
        int least = now.greatestTension(0);
        for (int ahead = 1; ahead < HOURS_OF_DAY; ahead++) {
            int greatest = now.greatestTension(ahead);
            if (greatest < least) {
                least = greatest;
                best = ahead;
            }
        }
        return best;
    }

    public int leastList(int vehicles) throws IllegalArgumentException {
        if (!isWithin(vehicles, 0, LANES * LANE_ROOM)) {
            throw new IllegalArgumentException("vehicles is out of range");
        }
        return now.leastListWith(vehicles);
    }

    public int lasts() {
        trial.copyFrom(now);
        int crossings = 0;
        while (crossings < MOST_CROSSINGS && trial.reason() == 0) {
            trial.crossRiver();
            crossings++;
        }
        return crossings;
    }

    public int needed() {
        if (now.reason() == 0) {
            return 0;
        }
        for (int sections = 1; sections <= MOST_DRAWN && now.canDrawThrough(sections); sections++) {
            trial.copyFrom(now);
            trial.drawThrough(sections);
            if (trial.reason() == 0) {
                return sections;
            }
        }
        return NONE;
    }

    public float wornShare() {
        return (float) now.wire.wearTogether() / 20000f;
    }

    public double carriedShare() {
        int droveOff = now.carried + now.turnedBack;
        if (droveOff == 0) {
            return 1.0;
        }
        return (double) now.carried / (double) droveOff;
    }

    public long digest() {
        long hash = 3301;
        hash = mixCounts(hash);
        hash = mixRiverAndWire(hash);
        hash = mixVehicles(hash);
        hash = mixOutlook(hash);
        hash = mix(hash, floatBits(wornShare()));
        hash = mix(hash, doubleBits(carriedShare()));
        hash = mix(hash, hasSnapshot ? 1 : 0);
        return mixBuffer(hash);
    }

    // ---- what the calls above share

    private static boolean isWithin(int value, int least, int greatest) {
        return value >= least && value <= greatest;
    }

    // All looks into rows go through at() and put(): no index can be wrong by itself.
    private static int at(int[] row, int index) {
        return index >= 0 && index < row.length ? row[index] : NONE;
    }

    private static void put(int[] row, int index, int value) {
        if (index >= 0 && index < row.length) {
            row[index] = value;
        }
    }

    private static void copyRow(int[] from, int[] to) {
        System.arraycopy(from, 0, to, 0, Math.min(from.length, to.length));
    }

    private int doOrders() {
        int done = 0;
        for (int i = 0; i < orders.length(); i++) {
            if (orders.isStartOfPart(i)) {
                if (!doOrder(i)) {
                    return done;
                }
                done++;
            }
        }
        return done;
    }

    /** Answers false, and does nothing, where the call that the order stands for would throw. */
    private boolean doOrder(int start) {
        int number = orders.numberAt(start + 1);
        switch (orders.codeAt(start)) {
            case 'a':
                if (!now.canArrive(number)) {
                    return false;
                }
                now.letArrive(number, orders.numberAt(start + 3));
                return true;
            case 'l':
                if (!now.canDriveOn(number)) {
                    return false;
                }
                now.driveOn(number);
                return true;
            case 'x':
                if (now.reason() != 0) {
                    return false;
                }
                now.crossRiver();
                return true;
            case 'd':
                if (!now.canDrawThrough(number)) {
                    return false;
                }
                now.drawThrough(number);
                return true;
            case 'w':
                now.letPass(number);
                return true;
            default:
                now.driveOff();
                return true;
        }
    }

    private static long mix(long hash, long value) {
        return 31 * hash + value;
    }

    private long mixCounts(long before) {
        long hash = before;
        for (int what = 0; what <= 13; what++) {
            hash = mix(hash, count(what));
        }
        return hash;
    }

    private long mixRiverAndWire(long before) {
        long hash = before;
        for (int i = 0; i < SETTINGS; i++) {
            hash = mix(hash, setting(i));
        }
        for (int hour = 0; hour < HOURS_OF_DAY; hour++) {
            hash = mix(hash, currentOf(hour));
        }
        for (int k = 0; k < SECTIONS; k++) {
            for (int what = 0; what <= 2; what++) {
                hash = mix(hash, section(k, what));
            }
        }
        return hash;
    }

    private long mixVehicles(long before) {
        long hash = before;
        for (int bank = 0; bank < BANKS; bank++) {
            Line line = now.lineAtBank(bank);
            hash = mix(hash, line.size());
            for (int place = 0; place < line.size(); place++) {
                hash = mix(hash, line.weightOf(place));
            }
        }
        for (int lane = 0; lane < LANES; lane++) {
            Line line = now.lineOnLane(lane);
            hash = mix(hash, line.size());
            for (int place = 0; place < line.size(); place++) {
                hash = mix(hash, line.weightOf(place));
                hash = mix(hash, line.bankOf(place));
            }
        }
        return hash;
    }

    private long mixOutlook(long before) {
        long hash = before;
        hash = mix(hash, why());
        hash = mix(hash, weakest());
        hash = mix(hash, ifLoaded(0));
        hash = mix(hash, ifLoaded(1));
        hash = mix(hash, bestHour());
        for (int vehicles = 1; vehicles <= 4; vehicles++) {
            hash = mix(hash, leastList(vehicles));
        }
        hash = mix(hash, lasts());
        return mix(hash, needed());
    }

    private long mixBuffer(long before) {
        long hash = mix(before, orders.length());
        for (int i = 0; i < orders.length(); i++) {
            hash = mix(hash, orders.codeAt(i));
        }
        return hash;
    }

    // Float.floatToIntBits and Double.doubleToLongBits are outside the library
    // that LANGUAGE.md leaves. For a share, 0 to 1, the bits follow from doublings,
    // which lose nothing.
    private static int floatBits(float share) {
        if (share <= 0f) {
            return 0;
        }
        float scaled = share;
        int exponent = 127;
        while (scaled < 1f && exponent > 1) {
            scaled = scaled * 2f;
            exponent--;
        }
        return (exponent << 23) + (int) ((scaled - 1f) * 8388608f);
    }

    private static long doubleBits(double share) {
        if (share <= 0.0) {
            return 0L;
        }
        double scaled = share;
        long exponent = 1023L;
        while (scaled < 1.0 && exponent > 1L) {
            scaled = scaled * 2.0;
            exponent--;
        }
        return (exponent << 52) + (long) ((scaled - 1.0) * 4503599627370496.0);
    }

    /** All that undo() restores, and the rules by which it changes. */
    private static final class State {
        final int[] currents;
        final int[] settings;
        final Line bank0;
        final Line bank1;
        final Line lane0;
        final Line lane1;
        final Wire wire;
        int hours;
        int ferryBank;
        int crossings;
        int arrived;
        int carried;
        int turnedBack;
        int hoursWaited;

        State() {
            currents = new int[HOURS_OF_DAY];
            for (int hour = 0; hour < currents.length; hour++) {
                currents[hour] = FIRST_CURRENT;
            }
            settings = new int[SETTINGS];
            copyRow(FIRST_SETTINGS, settings);
            bank0 = new Line(BANK_ROOM);
            bank1 = new Line(BANK_ROOM);
            lane0 = new Line(LANE_ROOM);
            lane1 = new Line(LANE_ROOM);
            wire = new Wire();
        }

        void copyFrom(State other) {
            copyRow(other.currents, currents);
            copyRow(other.settings, settings);
            bank0.copyFrom(other.bank0);
            bank1.copyFrom(other.bank1);
            lane0.copyFrom(other.lane0);
            lane1.copyFrom(other.lane1);
            wire.copyFrom(other.wire);
            hours = other.hours;
            ferryBank = other.ferryBank;
            crossings = other.crossings;
            arrived = other.arrived;
            carried = other.carried;
            turnedBack = other.turnedBack;
            hoursWaited = other.hoursWaited;
        }

        Line lineAtBank(int bank) {
            return bank == 0 ? bank0 : bank1;
        }

        Line lineOnLane(int lane) {
            return lane == 0 ? lane0 : lane1;
        }

        int vehiclesOnDeck() {
            return lane0.size() + lane1.size();
        }

        int weightOnDeck() {
            return lane0.weight() + lane1.weight();
        }

        int list() {
            return Math.abs(lane0.weight() - lane1.weight());
        }

        int currentAhead(int hoursAhead) {
            return at(currents, Math.floorMod(hours + hoursAhead, HOURS_OF_DAY));
        }

        int strengthOf(int section) {
            return wire.strengthOf(section, at(settings, STRENGTH));
        }

        int tensionOf(int section) {
            return wire.tensionOf(section, currentAhead(0), weightOnDeck(), list());
        }

        int reserveOf(int section) {
            return strengthOf(section) - tensionOf(section);
        }

        int greatestTension(int hoursAhead) {
            return wire.greatestTension(currentAhead(hoursAhead), weightOnDeck(), list());
        }

        /** Why the ferry cannot cross, 1 to 3; 0 if it can. */
        int reason() {
            if (list() > at(settings, GREATEST_LIST)) {
                return 1;
            }
            if (wire.slack > Wire.GREATEST_SLACK_TO_CROSS) {
                return 2;
            }
            boolean holds = wire.canBear(currentAhead(0), weightOnDeck(), list(), at(settings, STRENGTH));
            return holds ? 0 : 3;
        }

        boolean canArrive(int bank) {
            return !lineAtBank(bank).isFull();
        }

        void letArrive(int bank, int weight) {
            lineAtBank(bank).add(weight, bank);
            arrived++;
        }

        boolean canDriveOn(int lane) {
            return lineAtBank(ferryBank).size() > 0 && !lineOnLane(lane).isFull();
        }

        int driveOn(int lane) {
            Line line = lineAtBank(ferryBank);
            int weight = line.weightOf(0);
            line.removeFirst();
            lineOnLane(lane).add(weight, ferryBank);
            return weight;
        }

        /** Answers how many are carried. */
        int driveOff() {
            int backHere = lane0.countOfBank(ferryBank) + lane1.countOfBank(ferryBank);
            int carriedNow = vehiclesOnDeck() - backHere;
            carried += carriedNow;
            turnedBack += backHere;
            lane0.clear();
            lane1.clear();
            return carriedNow;
        }

        /** Answers how many hours pass by it. */
        int crossRiver() {
            wire.bear(currentAhead(0), weightOnDeck(), list(), at(settings, BEARING));
            int taken = 1 + wire.slack / 10;
            letPass(taken);
            ferryBank = 1 - ferryBank;
            crossings++;
            return taken;
        }

        void letPass(int hoursToPass) {
            hours += hoursToPass;
            hoursWaited += hoursToPass * (bank0.size() + bank1.size());
        }

        boolean canDrawThrough(int sections) {
            return sections <= wire.drum;
        }

        void drawThrough(int sections) {
            wire.renew(sections);
            letPass(sections);
        }

        int leastListWith(int vehicles) {
            if (vehicles > lineAtBank(ferryBank).size()) {
                return NONE;
            }
            int least = NONE;
            int ways = 1 << vehicles;
            for (int way = 0; way < ways; way++) {
                if (hasRoomFor(vehicles, way)) {
                    int list = listOf(vehicles, way);
                    least = least == NONE ? list : Math.min(least, list);
                }
            }
            return least;
        }

        // A way to part vehicles: the bit i of it is the lane of the vehicle i that waits.
        private boolean hasRoomFor(int vehicles, int way) {
            int toLane1 = Integer.bitCount(way);
            return lane0.size() + vehicles - toLane1 <= LANE_ROOM
                && lane1.size() + toLane1 <= LANE_ROOM;
        }

        private int listOf(int vehicles, int way) {
            Line line = lineAtBank(ferryBank);
            int difference = lane0.weight() - lane1.weight();
            for (int i = 0; i < vehicles; i++) {
                boolean toLane0 = (way >> i & 1) == 0;
                difference += toLane0 ? line.weightOf(i) : -line.weightOf(i);
            }
            return Math.abs(difference);
        }
    }

    /** The wire: how worn its sections are, its slack and stretch, and the drum. */
    private static final class Wire {
        static final int GREATEST_SLACK_TO_CROSS = 25;
        private static final int GREATEST_SLACK = 30;
        private static final int GREATEST_WEAR = 1000;
        private static final int STRETCH_OF_SLACK = 500;
        private static final int WEIGHT_OF_FERRY = 20;

        private final int[] wears;
        int slack;
        int stretch;
        int drum;

        Wire() {
            wears = new int[SECTIONS];
            slack = 0;
            stretch = 0;
            drum = SECTIONS_ON_DRUM;
        }

        void copyFrom(Wire other) {
            copyRow(other.wears, wears);
            slack = other.slack;
            stretch = other.stretch;
            drum = other.drum;
        }

        int wearOf(int section) {
            return at(wears, section);
        }

        int wearTogether() {
            int together = 0;
            for (int k = 0; k < SECTIONS; k++) {
                together += at(wears, k);
            }
            return together;
        }

        int tensionOf(int section, int current, int weights, int list) {
            int pull = current * Math.min(section + 1, SECTIONS - section) / 10;
            int loaded = pull * (WEIGHT_OF_FERRY + weights) / 10;
            return Math.max(0, loaded + 3 * list - 4 * slack);
        }

        int greatestTension(int current, int weights, int list) {
            int greatest = 0;
            for (int k = 0; k < SECTIONS; k++) {
                greatest = Math.max(greatest, tensionOf(k, current, weights, list));
            }
            return greatest;
        }

        int strengthOf(int section, int unworn) {
            return Math.max(0, unworn - at(wears, section) / 2);
        }

        boolean canBear(int current, int weights, int list, int unworn) {
            for (int k = 0; k < SECTIONS; k++) {
                if (tensionOf(k, current, weights, list) > strengthOf(k, unworn)) {
                    return false;
                }
            }
            return true;
        }

        void bear(int current, int weights, int list, int bearing) {
            int together = stretch;
            for (int k = 0; k < SECTIONS; k++) {
                int tension = tensionOf(k, current, weights, list);
                int wear = at(wears, k) + tension / Math.max(1, bearing);
                put(wears, k, Math.min(GREATEST_WEAR, wear));
                together += tension;
            }
            slack = Math.min(GREATEST_SLACK, slack + together / STRETCH_OF_SLACK);
            stretch = together % STRETCH_OF_SLACK;
        }

        void renew(int sections) {
            for (int k = 0; k < SECTIONS; k++) {
                put(wears, k, k + sections < SECTIONS ? at(wears, k + sections) : 0);
            }
            drum -= sections;
            slack = 0;
            stretch = 0;
        }
    }

    /** Vehicles one behind the other, each with its weight and the bank where it came. */
    private static final class Line {
        private final int[] weights;
        private final int[] banks;
        private int size;
        private int weight;

        Line(int room) {
            weights = new int[room];
            banks = new int[room];
            size = 0;
            weight = 0;
        }

        void copyFrom(Line other) {
            copyRow(other.weights, weights);
            copyRow(other.banks, banks);
            size = other.size;
            weight = other.weight;
        }

        int size() {
            return size;
        }

        /** The weights of all, together. */
        int weight() {
            return weight;
        }

        boolean isFull() {
            return size >= weights.length;
        }

        int weightOf(int place) {
            return place < size ? at(weights, place) : NONE;
        }

        int bankOf(int place) {
            return place < size ? at(banks, place) : NONE;
        }

        int countOfBank(int bank) {
            int count = 0;
            for (int place = 0; place < size; place++) {
                if (at(banks, place) == bank) {
                    count++;
                }
            }
            return count;
        }

        void add(int vehicleWeight, int bank) {
            if (isFull()) {
                return;
            }
            put(weights, size, vehicleWeight);
            put(banks, size, bank);
            size++;
            weight += vehicleWeight;
        }

        void removeFirst() {
            if (size == 0) {
                return;
            }
            weight -= at(weights, 0);
            for (int place = 1; place < size; place++) {
                put(weights, place - 1, at(weights, place));
                put(banks, place - 1, at(banks, place));
            }
            size--;
        }

        void clear() {
            size = 0;
            weight = 0;
        }
    }

    /** The latest saved states; the place of the oldest one is used again when all are taken. */
    private static final class History {
        private final State[] saved;
        private int oldest;
        private int size;

        History() {
            saved = new State[MOST_SAVED];
            for (int i = 0; i < saved.length; i++) {
                saved[i] = new State();
            }
            oldest = 0;
            size = 0;
        }

        int size() {
            return size;
        }

        void save(State state) {
            if (size == MOST_SAVED) {
                oldest = (oldest + 1) % MOST_SAVED;
                size--;
            }
            State place = placeOf(size);
            if (place != null) {
                place.copyFrom(state);
                size++;
            }
        }

        void restore(State state) {
            State latest = placeOf(size - 1);
            if (latest != null) {
                state.copyFrom(latest);
                size--;
            }
        }

        private State placeOf(int age) {
            int index = Math.floorMod(oldest + age, MOST_SAVED);
            return index >= 0 && index < saved.length ? saved[index] : null;
        }
    }

    /** The buffer: characters, and how far they are orders as a text. */
    private static final class Orders {
        // What the characters so far end with; those from ONE on end a part as it may stand.
        private static final int WRONG = -1;
        private static final int NO_PART = 0;
        private static final int ARRIVE = 1;
        private static final int ARRIVE_BANK = 2;
        private static final int ARRIVE_COLON = 3;
        private static final int LOAD = 4;
        private static final int PASS = 5;
        private static final int DRAW = 6;
        private static final int ONE = 7;
        private static final int TWO_OF_WEIGHT = 8;
        private static final int TWO_OF_HOURS = 9;
        private static final int WHOLE_PART = 10;

        private final int[] codes;
        private int length;
        private int right;
        private int end;

        Orders() {
            codes = new int[LONGEST_TEXT];
            length = 0;
            right = 0;
            end = NO_PART;
        }

        int length() {
            return length;
        }

        int codeAt(int index) {
            return index < length ? at(codes, index) : NONE;
        }

        void add(int code) {
            put(codes, length, code);
            length++;
            end = endBehind(end, code);
            if (end != WRONG) {
                right++;
            }
        }

        void clear() {
            length = 0;
            right = 0;
            end = NO_PART;
        }

        int firstWrong() {
            return right;
        }

        boolean areComplete() {
            return end >= ONE;
        }

        boolean isStartOfPart(int index) {
            return index == 0 || codeAt(index - 1) == ';';
        }

        int numberAt(int start) {
            int number = 0;
            for (int i = start; i < length && isWithin(codeAt(i), '0', '9'); i++) {
                number = 10 * number + codeAt(i) - '0';
            }
            return number;
        }

        private static int endBehind(int end, int code) {
            switch (end) {
                case WRONG: return WRONG;
                case NO_PART: return endBehindKind(code);
                case ARRIVE: return isWithin(code, '0', '1') ? ARRIVE_BANK : WRONG;
                case ARRIVE_BANK: return code == ':' ? ARRIVE_COLON : WRONG;
                case ARRIVE_COLON: return endBehindFirstDigit(code, TWO_OF_WEIGHT);
                case LOAD: return isWithin(code, '0', '1') ? WHOLE_PART : WRONG;
                case PASS: return endBehindFirstDigit(code, TWO_OF_HOURS);
                case DRAW: return isWithin(code, '1', '5') ? WHOLE_PART : WRONG;
                case ONE: return endBehindSecondDigit(code, '9');
                case TWO_OF_WEIGHT: return endBehindSecondDigit(code, '0');
                case TWO_OF_HOURS: return endBehindSecondDigit(code, '4');
                default: return code == ';' ? NO_PART : WRONG;
            }
        }

        private static int endBehindKind(int code) {
            switch (code) {
                case 'a': return ARRIVE;
                case 'l': return LOAD;
                case 'w': return PASS;
                case 'd': return DRAW;
                case 'u': return WHOLE_PART;
                case 'x': return WHOLE_PART;
                default: return WRONG;
            }
        }

        private static int endBehindFirstDigit(int code, int endOfTwo) {
            if (code == '1') {
                return ONE;
            }
            if (code == '2') {
                return endOfTwo;
            }
            return isWithin(code, '3', '9') ? WHOLE_PART : WRONG;
        }

        private static int endBehindSecondDigit(int code, int greatest) {
            if (isWithin(code, '0', greatest)) {
                return WHOLE_PART;
            }
            return code == ';' ? NO_PART : WRONG;
        }
    }
}
