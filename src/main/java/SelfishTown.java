import java.util.Arrays;

/**
 * A town's roads taken by selfish drivers. The words in capitals, and what each call answers,
 * are those of the project's document.
 *
 * All arrays are made with the object and used again, so that no call makes anything.
 */
public final class SelfishTown {
    public static final int NONE = -1, BAD = -3, NO = -4, FULL = -5, LARGE = -6, NOTHING = -11, INDEX = -13;

    private static final int PLACES = 6;
    private static final int MOST_ROADS = 10;
    private static final int MOST_DRIVERS = 5;
    private static final int MOST_KEPT = 8;
    private static final int MOST_HABITS = 2000;
    private static final int MOST_STEPS = 200;
    private static final int MOST_A = 12;
    private static final int MOST_B = 1000;
    private static final int MOST_TOLL = 100000;
    private static final int MOST_STREAM = 1000;

    private static final int PLAIN = 0;
    private static final int STEEP = 1;
    private static final int FLAT = 2;
    private static final int TOLD = 3;

    private static final int TABLE_PLACES = 6;
    private static final int MOST_BYTE = 127;
    private static final int MOST_INT = 100000;
    private static final int UNTOLD_TIME = 1000000;

    /** A WAY goes to no PLACE twice, so it has a road less than there are places. */
    private static final int MOST_LENGTH = PLACES - 1;

    /**
     * A driver who takes any road out of each place, all with the same chance, comes upon a WAY with
     * a chance of 1 by the product of how many roads leave its places. These are 10 at most together,
     * so no product is above 3 * 3 * 4; the chances are 1 at most together, so no more WAYS are there.
     */
    private static final int MOST_WAYS = 36;

    /** Above every SUM: five drivers on five roads each stay far below it. */
    private static final int ENDLESS = 2000000000;

    /** A multiple of 1 .. 12 and of the doubles of these, so that it by a slope is whole. */
    private static final long UNIT = 55440;

    /** Euclid's steps for two longs are fewer. */
    private static final int MOST_DIVISIONS = 100;

    private final Town town = new Town();
    private final History history = new History();
    private final Paths paths = new Paths();
    private final Paths detours = new Paths();
    private final Crowd crowd = new Crowd(town, paths);
    private final Crowd detoured = new Crowd(town, detours);
    private final Survey survey = new Survey();
    private final Stream stream = new Stream(town);
    private final Fraction ratio = new Fraction();

    public SelfishTown() {
    }

    // ---- the town

    public int road(int kind, int from, int to, int a, int b) {
        if (!isKind(kind) || !arePlaces(from, to) || a < 0 || a > MOST_A || b < 0 || b > MOST_B) {
            return BAD;
        }
        if (town.roadCount >= MOST_ROADS) {
            return FULL;
        }
        history.keep(town);
        int number = town.roadCount;
        town.roads[number].begin(kind, from, to, a, b);
        town.roadCount = number + 1;
        roadsHaveChanged();
        return number;
    }

    public int open(int road, int on) {
        Road it = town.roadAt(road);
        if (it == null || !isBit(on)) {
            return BAD;
        }
        history.keep(town);
        int was = it.open ? 1 : 0;
        if (was != on) {
            it.open = on == 1;
            roadsHaveChanged();
        }
        return was;
    }

    public int table(int road, int wide, int n) {
        Road it = town.roadAt(road);
        if (it == null || !isBit(wide) || n < NONE || n > TABLE_PLACES) {
            return BAD;
        }
        history.keep(town);
        it.ints = wide == 1;
        it.size = n;
        Arrays.fill(it.row, 0);
        return n;
    }

    public int enter(int road, int place, int v) {
        Road it = town.roadAt(road);
        if (it == null) {
            return BAD;
        }
        if (it.size == NONE) {
            return NOTHING;
        }
        if (place < 0 || place >= it.size) {
            return INDEX;
        }
        if (v < 0 || v > it.mostValue()) {
            return BAD;
        }
        history.keep(town);
        int was = it.row[place];
        it.row[place] = v;
        return was;
    }

    public int copy(int from, int to, int many) {
        Road source = town.roadAt(from);
        Road target = town.roadAt(to);
        if (source == null || target == null) {
            return BAD;
        }
        if (source.size == NONE || target.size == NONE) {
            return NOTHING;
        }
        if (source.ints != target.ints) {
            return NO;
        }
        if (many < 0 || many > source.size || many > target.size) {
            return INDEX;
        }
        history.keep(town);
        System.arraycopy(source.row, 0, target.row, 0, many);
        return many;
    }

    public int toll(int road, int v) {
        Road it = town.roadAt(road);
        if (it == null || v < 0 || v > MOST_TOLL) {
            return BAD;
        }
        history.keep(town);
        int was = it.toll;
        it.toll = v;
        return was;
    }

    public int about(int road, int what) {
        Road it = town.roadAt(road);
        if (it == null) {
            return BAD;
        }
        switch (what) {
            case 0: return it.kind;
            case 1: return it.from;
            case 2: return it.to;
            case 3: return it.a;
            case 4: return it.b;
            case 5: return it.toll;
            case 6: return it.open ? 1 : 0;
            case 7:
                crowd.gather();
                return crowd.uses[road];
            case 8: return it.size;
            default: return BAD;
        }
    }

    public int isOf(int road, int kind) {
        Road it = town.roadAt(road);
        if (it == null || !isKind(kind)) {
            return BAD;
        }
        boolean steepToo = it.kind == FLAT && kind == STEEP;
        return kind == PLAIN || kind == it.kind || steepToo ? 1 : 0;
    }

    public int takes(int road, int x) {
        Road it = town.roadAt(road);
        if (it == null || x < 1 || x > MOST_DRIVERS) {
            return BAD;
        }
        return it.time(x);
    }

    // ---- drivers

    public int driver(int from, int to) {
        if (!arePlaces(from, to)) {
            return BAD;
        }
        if (town.driverCount >= MOST_DRIVERS) {
            return FULL;
        }
        history.keep(town);
        int number = town.driverCount;
        town.drivers[number].begin(from, to);
        town.driverCount = number + 1;
        paths.find(town, NONE);
        return number;
    }

    public int ways(int driver) {
        return town.driverAt(driver) == null ? BAD : paths.counts[driver];
    }

    public int way(int driver, int k, int i) {
        if (town.driverAt(driver) == null || k < 0 || k >= paths.counts[driver] || i < 0) {
            return BAD;
        }
        int slot = slotOf(driver, k);
        return i < paths.lengths[slot] ? paths.roads[slot * MOST_LENGTH + i] : NONE;
    }

    public int choose(int driver, int k) {
        Driver it = town.driverAt(driver);
        if (it == null || k < NONE || k >= paths.counts[driver]) {
            return BAD;
        }
        history.keep(town);
        int was = it.choice;
        it.choice = k;
        return was;
    }

    public int told(int driver, int what) {
        Driver it = town.driverAt(driver);
        if (it == null || what < 0 || what > 4) {
            return BAD;
        }
        if (what == 3) {
            return it.from;
        }
        if (what == 4) {
            return it.to;
        }
        if (what == 0 || it.choice == NONE) {
            return it.choice;
        }
        crowd.gather();
        return what == 1 ? crowd.timeOf(driver) : crowd.costOf(driver);
    }

    public int now(int what) {
        if (what < 0 || what > 2) {
            return BAD;
        }
        if (!town.isHabit()) {
            return NO;
        }
        crowd.gather();
        if (what == 0) {
            return crowd.sum();
        }
        if (what == 1) {
            return crowd.most();
        }
        return crowd.isAtRest() ? 1 : 0;
    }

    public int store() {
        crowd.gather();
        return crowd.held();
    }

    public int reply(int driver) {
        if (town.driverAt(driver) == null) {
            return BAD;
        }
        if (paths.counts[driver] == 0) {
            return NO;
        }
        crowd.gather();
        return crowd.cheapest(driver);
    }

    // ---- habits

    public int habits() {
        return paths.habitCount();
    }

    public int habit(int k) {
        int all = paths.habitCount();
        if (all < 0) {
            return all;
        }
        if (k < 0 || k >= all) {
            return BAD;
        }
        crowd.empty();
        crowd.goToHabit(k);
        makeChoices();
        return 0;
    }

    public int best() {
        int all = paths.habitCount();
        if (all < 0) {
            return all;
        }
        goToBest();
        makeChoices();
        return survey.bestSum;
    }

    public int rests() {
        int all = paths.habitCount();
        if (all < 0) {
            return all;
        }
        crowd.empty();
        survey.goThrough(crowd);
        return survey.restCount;
    }

    /** That there are not so many is no refusal: the call is a CHANGE then, too. */
    public int rest(int k) {
        int all = paths.habitCount();
        if (all < 0) {
            return all;
        }
        if (k < 0) {
            return BAD;
        }
        crowd.empty();
        if (!crowd.goToRest(k)) {
            history.keep(town);
            return NONE;
        }
        makeChoices();
        return crowd.sum();
    }

    public int extreme(int what) {
        int all = paths.habitCount();
        if (all < 0) {
            return all;
        }
        if (what < 0 || what > 2) {
            return BAD;
        }
        crowd.empty();
        survey.goThrough(crowd);
        if (what == 0) {
            return survey.leastRest;
        }
        return what == 1 ? survey.greatestRest : survey.leastMost;
    }

    public int price(int part) {
        int all = paths.habitCount();
        if (all < 0) {
            return all;
        }
        if (!isBit(part)) {
            return BAD;
        }
        crowd.empty();
        survey.goThrough(crowd);
        if (survey.bestSum > 0) {
            ratio.put(survey.greatestRest, survey.bestSum);
            return (int) ratio.part(part);
        }
        return survey.greatestRest == 0 ? 1 : NONE;
    }

    public int harms() {
        int all = paths.habitCount();
        if (all < 0) {
            return all;
        }
        crowd.empty();
        survey.goThrough(crowd);
        int greatest = survey.greatestRest;
        int bits = 0;
        for (int r = 0; r < town.roadCount; r++) {
            if (town.roads[r].open && worstWithout(r, greatest) < greatest) {
                bits |= 1 << r;
            }
        }
        return bits;
    }

    public int agrees() {
        int all = paths.habitCount();
        if (all < 0) {
            return all;
        }
        if (!town.isHabit()) {
            return NO;
        }
        crowd.gather();
        return crowd.leastHeap();
    }

    // ---- what drivers do

    public int better(int n) {
        if (n < 1 || n > MOST_STEPS) {
            return BAD;
        }
        if (!town.isHabit()) {
            return NO;
        }
        crowd.gather();
        int did = 0;
        int restless = crowd.leastRestless();
        while (did < n && restless != NONE) {
            crowd.put(restless, crowd.cheapest(restless));
            did++;
            restless = crowd.leastRestless();
        }
        makeChoices();
        return did;
    }

    public int queue() {
        if (paths.habitCount() == NO) {
            return NO;
        }
        crowd.empty();
        for (int d = 0; d < town.driverCount; d++) {
            crowd.put(d, crowd.cheapest(d));
        }
        makeChoices();
        return crowd.sum();
    }

    public int teach() {
        int all = paths.habitCount();
        if (all < 0) {
            return all;
        }
        goToBest();
        makeChoices();
        for (int r = 0; r < town.roadCount; r++) {
            town.roads[r].toll = town.roads[r].lesson(crowd.uses[r]);
        }
        // the costs that the crowd holds are those of the old tolls
        crowd.gather();
        return crowd.isAtRest() ? 1 : 0;
    }

    // ---- streams

    public long level(int from, int to, int q, int kind, int part) {
        if (!arePlaces(from, to) || !isStream(q, kind, part)) {
            return BAD;
        }
        if (!stream.flow(from, to, q, kind)) {
            return NO;
        }
        return stream.level.part(part);
    }

    public long share(int road, int q, int kind, int part) {
        Road it = town.roadAt(road);
        if (it == null || !isStream(q, kind, part)) {
            return BAD;
        }
        if (!stream.flow(it.from, it.to, q, kind)) {
            return NO;
        }
        stream.findShareOf(road);
        return stream.part.part(part);
    }

    public int undo() {
        if (history.size == 0) {
            return NO;
        }
        history.takeBack(town);
        paths.find(town, NONE);
        return history.size;
    }

    public int count(int what) {
        switch (what) {
            case 0: return town.roadCount;
            case 1: return town.driverCount;
            case 2: return town.openRoads();
            case 3: return town.tables();
            case 4: return town.choosers();
            case 5: return history.size;
            default: return BAD;
        }
    }

    // ---- what the calls share

    private static boolean isKind(int kind) {
        return kind >= PLAIN && kind <= TOLD;
    }

    private static boolean isBit(int v) {
        return v == 0 || v == 1;
    }

    private static boolean arePlaces(int from, int to) {
        return from >= 0 && from < PLACES && to >= 0 && to < PLACES && from != to;
    }

    private static boolean isStream(int q, int kind, int part) {
        return q >= 1 && q <= MOST_STREAM && isBit(kind) && isBit(part);
    }

    /** Where a WAY stands in the rows of Paths. */
    private static int slotOf(int driver, int way) {
        return driver * MOST_WAYS + way;
    }

    /** The numbers of the WAYS are others now, so no CHOICE can stay. */
    private void roadsHaveChanged() {
        for (int d = 0; d < town.driverCount; d++) {
            town.drivers[d].choice = NONE;
        }
        paths.find(town, NONE);
    }

    private void makeChoices() {
        history.keep(town);
        for (int d = 0; d < town.driverCount; d++) {
            town.drivers[d].choice = crowd.choices[d];
        }
    }

    private void goToBest() {
        crowd.empty();
        survey.goThrough(crowd);
        crowd.putAll(survey.bestHabit);
    }

    /** The greatest SUM of a REST if the road were SHUT; as it is, if somebody needs the road. */
    private int worstWithout(int road, int asItIs) {
        if (!paths.haveRoad(road)) {
            return asItIs;
        }
        detours.find(town, road);
        if (detours.habitCount() < 0) {
            return asItIs;
        }
        detoured.empty();
        survey.goThrough(detoured);
        return survey.greatestRest;
    }

    // ---- what the town is made of

    private static final class Road {
        private int kind;
        private int from;
        private int to;
        private int a;
        private int b;
        private int toll;
        private boolean open;
        private boolean ints;
        /** How many places the TABLE has; NONE if it is MISSING. */
        private int size;
        private final int[] row = new int[TABLE_PLACES];

        private void begin(int newKind, int newFrom, int newTo, int newA, int newB) {
            kind = newKind;
            from = newFrom;
            to = newTo;
            a = newA;
            b = newB;
            toll = 0;
            open = true;
            ints = false;
            size = NONE;
        }

        private void become(Road other) {
            kind = other.kind;
            from = other.from;
            to = other.to;
            a = other.a;
            b = other.b;
            toll = other.toll;
            open = other.open;
            ints = other.ints;
            size = other.size;
            System.arraycopy(other.row, 0, row, 0, TABLE_PLACES);
        }

        private int mostValue() {
            return ints ? MOST_INT : MOST_BYTE;
        }

        private int time(int x) {
            switch (kind) {
                case STEEP: return a * x * x + b;
                case FLAT: return b;
                case TOLD: return x >= 1 && x <= size ? row[x - 1] : UNTOLD_TIME;
                default: return a * x + b;
            }
        }

        /** The TOLL that teaches, with so many drivers at BEST. */
        private int lesson(int x) {
            if (x < 2) {
                return 0;
            }
            int harm = (x - 1) * (time(x) - time(x - 1));
            return Math.max(0, Math.min(MOST_TOLL, harm));
        }
    }

    private static final class Driver {
        private int from;
        private int to;
        private int choice;

        private void begin(int newFrom, int newTo) {
            from = newFrom;
            to = newTo;
            choice = NONE;
        }

        private void become(Driver other) {
            from = other.from;
            to = other.to;
            choice = other.choice;
        }
    }

    /** All that undo() brings back. */
    private static final class Town {
        private final Road[] roads = new Road[MOST_ROADS];
        private final Driver[] drivers = new Driver[MOST_DRIVERS];
        private int roadCount;
        private int driverCount;

        private Town() {
            for (int r = 0; r < MOST_ROADS; r++) {
                roads[r] = new Road();
            }
            for (int d = 0; d < MOST_DRIVERS; d++) {
                drivers[d] = new Driver();
            }
        }

        private void become(Town other) {
            roadCount = other.roadCount;
            for (int r = 0; r < roadCount; r++) {
                roads[r].become(other.roads[r]);
            }
            driverCount = other.driverCount;
            for (int d = 0; d < driverCount; d++) {
                drivers[d].become(other.drivers[d]);
            }
        }

        /** null, if there is no such ROAD. */
        private Road roadAt(int number) {
            return number >= 0 && number < roadCount ? roads[number] : null;
        }

        /** null, if there is no such DRIVER. */
        private Driver driverAt(int number) {
            return number >= 0 && number < driverCount ? drivers[number] : null;
        }

        private int openRoads() {
            int found = 0;
            for (int r = 0; r < roadCount; r++) {
                found += roads[r].open ? 1 : 0;
            }
            return found;
        }

        private int tables() {
            int found = 0;
            for (int r = 0; r < roadCount; r++) {
                found += roads[r].size != NONE ? 1 : 0;
            }
            return found;
        }

        private int choosers() {
            int found = 0;
            for (int d = 0; d < driverCount; d++) {
                found += drivers[d].choice != NONE ? 1 : 0;
            }
            return found;
        }

        private boolean isHabit() {
            return choosers() == driverCount;
        }
    }

    /** The town as it was ahead of each of the latest changes, in a ring. */
    private static final class History {
        private final Town[] ring = new Town[MOST_KEPT];
        private int size;
        private int next;

        private History() {
            for (int i = 0; i < MOST_KEPT; i++) {
                ring[i] = new Town();
            }
        }

        private void keep(Town town) {
            ring[next].become(town);
            next = (next + 1) % MOST_KEPT;
            size = Math.min(MOST_KEPT, size + 1);
        }

        private void takeBack(Town town) {
            next = (next + MOST_KEPT - 1) % MOST_KEPT;
            size--;
            town.become(ring[next]);
        }
    }

    // ---- ways and those who take them

    /** The WAYS of all DRIVERS, in the order of their numbers. */
    private static final class Paths {
        private final int[] counts = new int[MOST_DRIVERS];
        private final int[] lengths = new int[MOST_DRIVERS * MOST_WAYS];
        /** The roads of a WAY as bits, by slots. */
        private final int[] bits = new int[MOST_DRIVERS * MOST_WAYS];
        /** The roads of a WAY in their order, MOST_LENGTH for each slot. */
        private final int[] roads = new int[MOST_DRIVERS * MOST_WAYS * MOST_LENGTH];
        private final int[] trail = new int[MOST_LENGTH];
        private int drivers;

        /** Finds them as if the road without were SHUT, too (NONE: none is). */
        private void find(Town town, int without) {
            drivers = town.driverCount;
            for (int d = 0; d < drivers; d++) {
                int start = town.drivers[d].from;
                counts[d] = 0;
                extend(town, without, d, start, 1 << start, 0);
            }
        }

        /** Tries the roads in the order of their numbers, so the WAYS come in theirs. */
        private void extend(Town town, int without, int driver, int place, int seen, int depth) {
            if (depth >= MOST_LENGTH) {
                return;
            }
            for (int r = 0; r < town.roadCount; r++) {
                Road road = town.roads[r];
                boolean fits = road.open && r != without && road.from == place && (seen >> road.to & 1) == 0;
                if (!fits) {
                    continue;
                }
                trail[depth] = r;
                if (road.to == town.drivers[driver].to) {
                    add(driver, depth + 1);
                } else {
                    extend(town, without, driver, road.to, seen | 1 << road.to, depth + 1);
                }
            }
        }

        private void add(int driver, int length) {
            if (counts[driver] >= MOST_WAYS) {
                return;
            }
            int slot = slotOf(driver, counts[driver]);
            int all = 0;
            for (int i = 0; i < length; i++) {
                roads[slot * MOST_LENGTH + i] = trail[i];
                all |= 1 << trail[i];
            }
            lengths[slot] = length;
            bits[slot] = all;
            counts[driver]++;
        }

        /** How many HABITS there are; NO or LARGE, if they can't be gone through. */
        private int habitCount() {
            int product = 1;
            for (int d = 0; d < drivers; d++) {
                if (counts[d] == 0) {
                    return NO;
                }
            }
            for (int d = 0; d < drivers; d++) {
                product = Math.min(MOST_HABITS + 1, product * counts[d]);
            }
            return product > MOST_HABITS ? LARGE : product;
        }

        private boolean haveRoad(int road) {
            int all = 0;
            for (int d = 0; d < drivers; d++) {
                for (int w = 0; w < counts[d]; w++) {
                    all |= bits[slotOf(d, w)];
                }
            }
            return (all >> road & 1) == 1;
        }
    }

    /** Drivers with choices that are tried out, apart from those that the town keeps. */
    private static final class Crowd {
        private final Town town;
        private final Paths paths;
        private final int[] choices = new int[MOST_DRIVERS];
        private final int[] uses = new int[MOST_ROADS];
        /** What road r takes with x drivers, at r * MOST_DRIVERS + x - 1. */
        private final int[] times = new int[MOST_ROADS * MOST_DRIVERS];
        /** The same with the TOLL. */
        private final int[] costs = new int[MOST_ROADS * MOST_DRIVERS];
        private final int[] staying = new int[MOST_DRIVERS];
        private final int[] costsBefore = new int[MOST_DRIVERS];

        private Crowd(Town itsTown, Paths itsPaths) {
            town = itsTown;
            paths = itsPaths;
        }

        /** Nobody has a choice; the roads are the town's. */
        private void empty() {
            for (int r = 0; r < town.roadCount; r++) {
                Road road = town.roads[r];
                uses[r] = 0;
                for (int x = 1; x <= MOST_DRIVERS; x++) {
                    int at = r * MOST_DRIVERS + x - 1;
                    times[at] = road.time(x);
                    costs[at] = times[at] + road.toll;
                }
            }
            Arrays.fill(choices, NONE);
        }

        /** The choices and the roads are the town's. */
        private void gather() {
            empty();
            for (int d = 0; d < town.driverCount; d++) {
                put(d, town.drivers[d].choice);
            }
        }

        private void put(int driver, int way) {
            addUses(driver, -1);
            choices[driver] = way;
            addUses(driver, 1);
        }

        private void addUses(int driver, int change) {
            if (choices[driver] == NONE) {
                return;
            }
            int slot = slotOf(driver, choices[driver]);
            int first = slot * MOST_LENGTH;
            int end = first + paths.lengths[slot];
            for (int i = first; i < end; i++) {
                uses[paths.roads[i]] += change;
            }
        }

        private void putAll(int[] habit) {
            for (int d = 0; d < town.driverCount; d++) {
                put(d, habit[d]);
            }
        }

        private void saveTo(int[] habit) {
            System.arraycopy(choices, 0, habit, 0, MOST_DRIVERS);
        }

        /** What a driver would meet on a way, the others staying: by times or by costs. */
        private int along(int driver, int way, int[] table) {
            int own = choices[driver] == NONE ? 0 : paths.bits[slotOf(driver, choices[driver])];
            int slot = slotOf(driver, way);
            int first = slot * MOST_LENGTH;
            int end = first + paths.lengths[slot];
            int total = 0;
            for (int i = first; i < end; i++) {
                int road = paths.roads[i];
                int others = uses[road] - (own >> road & 1);
                total += table[road * MOST_DRIVERS + others];
            }
            return total;
        }

        /** Only for a driver with a choice. */
        private int timeOf(int driver) {
            return along(driver, choices[driver], times);
        }

        /** Only for a driver with a choice. */
        private int costOf(int driver) {
            return along(driver, choices[driver], costs);
        }

        private int sum() {
            int total = 0;
            for (int r = 0; r < town.roadCount; r++) {
                if (uses[r] > 0) {
                    total += uses[r] * times[r * MOST_DRIVERS + uses[r] - 1];
                }
            }
            return total;
        }

        private int most() {
            int greatest = 0;
            for (int d = 0; d < town.driverCount; d++) {
                greatest = Math.max(greatest, along(d, choices[d], times));
            }
            return greatest;
        }

        private int held() {
            int total = 0;
            for (int r = 0; r < town.roadCount; r++) {
                for (int x = 1; x <= uses[r]; x++) {
                    total += costs[r * MOST_DRIVERS + x - 1];
                }
            }
            return total;
        }

        private int cheapest(int driver) {
            int found = 0;
            int least = ENDLESS;
            for (int w = 0; w < paths.counts[driver]; w++) {
                int cost = along(driver, w, costs);
                if (cost < least) {
                    least = cost;
                    found = w;
                }
            }
            return found;
        }

        /** The least driver for whom another way would cost less; NONE, if all rest. */
        private int leastRestless() {
            for (int d = 0; d < town.driverCount; d++) {
                int cost = along(d, choices[d], costs);
                for (int w = 0; w < paths.counts[d]; w++) {
                    if (along(d, w, costs) < cost) {
                        return d;
                    }
                }
            }
            return NONE;
        }

        private boolean isAtRest() {
            return leastRestless() == NONE;
        }

        private int everybody() {
            return (1 << town.driverCount) - 1;
        }

        private void goToFirst(int heap) {
            for (int d = 0; d < town.driverCount; d++) {
                if ((heap >> d & 1) == 1) {
                    put(d, 0);
                }
            }
        }

        /** The next choices of the heap, the last driver's changing first; false behind the last. */
        private boolean goToNext(int heap) {
            for (int d = town.driverCount - 1; d >= 0; d--) {
                if ((heap >> d & 1) == 0) {
                    continue;
                }
                if (choices[d] + 1 < paths.counts[d]) {
                    put(d, choices[d] + 1);
                    return true;
                }
                put(d, 0);
            }
            return false;
        }

        private void goToHabit(int number) {
            int left = number;
            for (int d = town.driverCount - 1; d >= 0; d--) {
                int many = Math.max(1, paths.counts[d]);
                put(d, left % many);
                left /= many;
            }
        }

        /** false, if there are not so many. */
        private boolean goToRest(int number) {
            int all = everybody();
            int seen = 0;
            boolean more = true;
            goToFirst(all);
            for (int i = 0; i < MOST_HABITS && more; i++) {
                if (isAtRest()) {
                    if (seen == number) {
                        return true;
                    }
                    seen++;
                }
                more = goToNext(all);
            }
            return false;
        }

        /** The least heap that AGREES; NONE, if none does. All must have a choice. */
        private int leastHeap() {
            saveTo(staying);
            for (int d = 0; d < town.driverCount; d++) {
                costsBefore[d] = costOf(d);
            }
            for (int heap = 1; heap <= everybody(); heap++) {
                boolean agreed = canAgree(heap);
                putAll(staying);
                if (agreed) {
                    return heap;
                }
            }
            return NONE;
        }

        private boolean canAgree(int heap) {
            boolean more = true;
            goToFirst(heap);
            for (int i = 0; i < MOST_HABITS && more; i++) {
                if (allGain(heap)) {
                    return true;
                }
                more = goToNext(heap);
            }
            return false;
        }

        private boolean allGain(int heap) {
            for (int d = 0; d < town.driverCount; d++) {
                if ((heap >> d & 1) == 1 && costOf(d) >= costsBefore[d]) {
                    return false;
                }
            }
            return true;
        }
    }

    /** What is found by going through all HABITS. */
    private static final class Survey {
        private final int[] bestHabit = new int[MOST_DRIVERS];
        private int bestSum;
        private int leastMost;
        private int restCount;
        private int leastRest;
        private int greatestRest;

        private void goThrough(Crowd crowd) {
            int all = crowd.everybody();
            boolean more = true;
            bestSum = ENDLESS;
            leastMost = ENDLESS;
            restCount = 0;
            leastRest = ENDLESS;
            greatestRest = 0;
            crowd.goToFirst(all);
            for (int i = 0; i < MOST_HABITS && more; i++) {
                note(crowd);
                more = crowd.goToNext(all);
            }
        }

        private void note(Crowd crowd) {
            int sum = crowd.sum();
            if (sum < bestSum) {
                bestSum = sum;
                crowd.saveTo(bestHabit);
            }
            leastMost = Math.min(leastMost, crowd.most());
            if (crowd.leastRestless() == NONE) {
                restCount++;
                leastRest = Math.min(leastRest, sum);
                greatestRest = Math.max(greatestRest, sum);
            }
        }
    }

    // ---- streams and their fractions

    private static final class Fraction {
        private long above;
        private long below = 1;

        /** For a number that is not below 0, by one above 0. */
        private void put(long newAbove, long newBelow) {
            long divisor = commonDivisor(newAbove, newBelow);
            above = divisor > 0 ? newAbove / divisor : 0;
            below = divisor > 0 ? newBelow / divisor : 1;
        }

        private static long commonDivisor(long first, long second) {
            long larger = first;
            long smaller = second;
            for (int i = 0; i < MOST_DIVISIONS && smaller != 0; i++) {
                long left = larger % smaller;
                larger = smaller;
                smaller = left;
            }
            return larger;
        }

        private boolean exceeds(long otherAbove, long otherBelow) {
            return above * otherBelow > otherAbove * below;
        }

        private long part(int which) {
            return which == 0 ? above : below;
        }
    }

    /** A STREAM between two places: its LEVEL, and one road's SHARE of it. */
    private static final class Stream {
        private final Town town;
        private final Fraction level = new Fraction();
        private final Fraction part = new Fraction();
        private int from;
        private int to;
        private int much;
        /** At best a share's cost to the others counts, too, which doubles each slope. */
        private int steepness;

        private Stream(Town itsTown) {
            town = itsTown;
        }

        /** Finds the LEVEL; false, if no road takes the stream. */
        private boolean flow(int newFrom, int newTo, int q, int kind) {
            from = newFrom;
            to = newTo;
            much = q;
            steepness = kind == 1 ? 2 : 1;
            boolean found = false;
            for (int r = 0; r < town.roadCount; r++) {
                Road road = town.roads[r];
                if (isTaken(road)) {
                    lowerLevel(road, found);
                    found = true;
                }
            }
            return found;
        }

        private boolean isTaken(Road road) {
            boolean streams = road.kind == PLAIN || road.kind == FLAT;
            return streams && road.open && road.from == from && road.to == to;
        }

        private long slopeOf(Road road) {
            return road.kind == PLAIN ? (long) road.a * steepness : 0;
        }

        /**
         * Any set of roads that takes the whole stream has no lesser level than the true one, and
         * the set with a share is one of those of all roads whose b is not above some road's: so
         * the least of these levels is the true one.
         */
        private void lowerLevel(Road last, boolean found) {
            long above = last.b;
            long below = 1;
            if (slopeOf(last) > 0) {
                above = much * UNIT;
                below = 0;
                for (int r = 0; r < town.roadCount; r++) {
                    Road road = town.roads[r];
                    long slope = slopeOf(road);
                    if (isTaken(road) && slope > 0 && road.b <= last.b) {
                        above += road.b * (UNIT / slope);
                        below += UNIT / slope;
                    }
                }
            }
            if (!found || level.exceeds(above, below)) {
                level.put(above, below);
            }
        }

        private void findShareOf(int number) {
            Road road = town.roads[number];
            long slope = slopeOf(road);
            long lift = liftOf(road);
            if (!isTaken(road) || lift < 0) {
                part.put(0, 1);
            } else if (slope > 0) {
                part.put(lift, slope * level.below);
            } else if (number == leastFlat()) {
                putWhatIsLeft();
            } else {
                part.put(0, 1);
            }
        }

        /** How far the LEVEL is above what the empty road takes, in parts of the level's lower number. */
        private long liftOf(Road road) {
            return level.above - road.b * level.below;
        }

        /** The least road that takes just the LEVEL, whatever its share; NONE, if there is none. */
        private int leastFlat() {
            for (int r = 0; r < town.roadCount; r++) {
                Road road = town.roads[r];
                if (isTaken(road) && slopeOf(road) == 0 && liftOf(road) == 0) {
                    return r;
                }
            }
            return NONE;
        }

        private void putWhatIsLeft() {
            long left = much * UNIT * level.below;
            for (int r = 0; r < town.roadCount; r++) {
                Road road = town.roads[r];
                long slope = slopeOf(road);
                if (isTaken(road) && slope > 0 && liftOf(road) > 0) {
                    left -= liftOf(road) * (UNIT / slope);
                }
            }
            part.put(left, UNIT * level.below);
        }
    }
}
