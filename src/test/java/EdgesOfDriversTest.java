import java.util.function.Supplier;

/** The boundary cases of Terms 2 and of promises 11 to 18 and 28 to 30, a test for each sentence that names one. */
public final class EdgesOfDriversTest {
    private static final int NONE = -1, BAD = -3, NO = -4, FULL = -5, LARGE = -6;

    public static void main(String[] args) {
        driverPlaces();
        driverIsFull();
        driverBadAheadOfFull();
        driverAsItComes();
        waysOfNone();
        waysOfOpenRoadsOnly();
        waysNoPlaceTwice();
        waysMostAndLongest();
        waysRefused();
        wayEnds();
        wayRefused();
        chooseFirstLastNone();
        chooseRefused();
        choicesGoAsARoadComes();
        choicesGoAsARoadOpensOrShuts();
        choicesStay();
        toldWithoutChoice();
        toldGreatest();
        toldRefused();
        nowWithSomeWithout();
        nowMostOfEach();
        nowOfEquals();
        nowRefused();
        storeOfSome();
        replyOfEquals();
        replyWithoutOneself();
        replyRefused();
        betterSoManyTimes();
        betterAtRest();
        betterRefused();
        queueBeginsAnew();
        queueOfMany();
        queueRefused();
        teachLimits();
        teachOfFew();
        teachWhetherItRests();
        teachRefused();
        Due.end();
    }

    // ---- promise 11

    /** "PLACES 0 .. 5", "go from a PLACE to another one", "BAD: places (or the same)". */
    private static void driverPlaces() {
        for (int from = 0; from <= 5; from++) {
            for (int to = 0; to <= 5; to++) {
                SelfishTown t = new SelfishTown();
                Due.is("driver from " + from + " to " + to, t.driver(from, to), from == to ? BAD : 0);
                Due.is("told(0, 3)", t.told(0, 3), from == to ? BAD : from);
                Due.is("told(0, 4)", t.told(0, 4), from == to ? BAD : to);
            }
        }
        for (int place : Towns.outside(0, 5)) {
            Still.refused("driver(" + place + ", 1)", Towns::lively, t -> t.driver(place, 1), BAD);
            Still.refused("driver(1, " + place + ")", Towns::lively, t -> t.driver(1, place), BAD);
            Still.refused("driver(" + place + ", the same)", Towns::lively, t -> t.driver(place, place), BAD);
        }
        for (int place = 0; place <= 5; place++) {
            int same = place;
            Still.refused("driver(" + place + ", the same)", Towns::lively, t -> t.driver(same, same), BAD);
        }
    }

    /** "DRIVERS, 5 at most, numbered from 0", "FULL". */
    private static void driverIsFull() {
        SelfishTown t = new SelfishTown();
        for (int d = 0; d < 5; d++) {
            Due.is("driver " + d, t.driver(d, 5), d);
            Due.is("count(1)", t.count(1), d + 1);
        }
        Due.is("the sixth", t.driver(0, 5), FULL);
        Due.is("count(1)", t.count(1), 5);
        Still.refused("driver(0, 1)", Towns::full, x -> x.driver(0, 1), FULL);
        Still.refused("driver(5, 4)", Towns::full, x -> x.driver(5, 4), FULL);
        Due.is("undo()", t.undo(), 4);
        Due.is("its number again", t.driver(1, 2), 4);
        Due.is("its own place", t.told(4, 4), 2);
    }

    /** "of several the one that stands first": BAD ahead of FULL. */
    private static void driverBadAheadOfFull() {
        int[][] wrong = {{-1, 0}, {6, 0}, {0, -1}, {0, 6}, {3, 3}};
        for (int[] w : wrong) {
            Still.refused("a wrong sixth driver", Towns::full, t -> t.driver(w[0], w[1]), BAD);
        }
    }

    /** "or none (at first)"; the others keep their CHOICES, as no ROAD comes. */
    private static void driverAsItComes() {
        SelfishTown t = Towns.lively();
        Due.is("driver(0, 1)", t.driver(0, 1), 2);
        Due.is("told(2, 0)", t.told(2, 0), NONE);
        Due.is("told(0, 0)", t.told(0, 0), 0);
        Due.is("told(1, 0)", t.told(1, 0), 1);
        Due.is("count(4)", t.count(4), 2);
    }

    // ---- promises 12 and 13

    /** A driver may have no WAY: nothing there yet, or only the way back. */
    private static void waysOfNone() {
        SelfishTown t = new SelfishTown();
        t.driver(0, 1);
        Due.is("without roads", t.ways(0), 0);
        Due.is("its way 0", t.way(0, 0, 0), BAD);
        t.road(0, 1, 0, 1, 1);
        Due.is("roads go one way", t.ways(0), 0);
        t.road(0, 0, 2, 1, 1);
        Due.is("and end elsewhere", t.ways(0), 0);
        t.road(0, 2, 1, 1, 1);
        Due.is("till they meet", t.ways(0), 1);
    }

    /** "rows of OPEN ROADS". */
    private static void waysOfOpenRoadsOnly() {
        SelfishTown t = Towns.sideBySide(10, 1);
        for (int r = 0; r < 10; r++) {
            Due.is("ways(0)", t.ways(0), 10 - r);
            Due.is("the first", t.way(0, 0, 0), r);
            t.open(r, 0);
        }
        Due.is("all shut", t.ways(0), 0);
        Due.is("way(0, 0, 0)", t.way(0, 0, 0), BAD);
        t.open(9, 1);
        Due.is("one open", t.ways(0), 1);
        Due.is("way(0, 0, 0)", t.way(0, 0, 0), 9);
    }

    /** "each beginning where the one ahead ends, no PLACE twice": not its first, nor its last, nor one between. */
    private static void waysNoPlaceTwice() {
        SelfishTown t = new SelfishTown();
        t.road(2, 1, 0, 0, 1);
        t.road(2, 0, 1, 0, 1);
        t.road(2, 2, 1, 0, 1);
        t.road(2, 1, 2, 0, 1);
        t.road(2, 2, 0, 0, 1);
        t.road(2, 0, 2, 0, 1);
        t.road(2, 1, 3, 0, 1);
        t.road(2, 3, 1, 0, 1);
        t.driver(0, 2);
        int[][] due = {{1, 3, NONE}, {5, NONE, NONE}};
        Due.is("ways(0)", t.ways(0), 2);
        for (int k = 0; k < 2; k++) {
            for (int i = 0; i < 3; i++) {
                Due.is("way(0, " + k + ", " + i + ")", t.way(0, k, i), due[k][i]);
            }
        }
    }

    /** Ten ROADS make 36 WAYS at most; six PLACES make a WAY of five ROADS at most. */
    private static void waysMostAndLongest() {
        SelfishTown t = new SelfishTown();
        int[] sideBySide = {2, 2, 3, 3};
        for (int step = 0; step < 4; step++) {
            for (int i = 0; i < sideBySide[step]; i++) {
                t.road(2, step, step + 1, 0, 1);
            }
        }
        for (int d = 0; d < 5; d++) {
            t.driver(0, 4);
            Due.is("ways(" + d + ")", t.ways(d), 36);
            Due.is("the last one's last", t.way(d, 35, 3), 9);
            Due.is("behind it", t.way(d, 35, 4), NONE);
            Due.is("no such way", t.way(d, 36, 0), BAD);
        }
        SelfishTown all = new SelfishTown();
        for (int place = 5; place > 0; place--) {
            all.road(2, place, place - 1, 0, 1);
        }
        all.driver(5, 0);
        Due.is("ways(0)", all.ways(0), 1);
        for (int i = 0; i < 5; i++) {
            Due.is("way(0, 0, " + i + ")", all.way(0, 0, i), i);
        }
        Due.is("way(0, 0, 5)", all.way(0, 0, 5), NONE);
    }

    private static void waysRefused() {
        for (int driver : Towns.outside(0, 1)) {
            Due.is("ways(" + driver + ")", Towns.lively().ways(driver), BAD);
        }
        Due.is("ways(4)", Towns.full().ways(4), 10);
        Due.is("ways(5)", Towns.full().ways(5), BAD);
    }

    /** "NONE: it has not so many". */
    private static void wayEnds() {
        SelfishTown t = Towns.lively();
        Due.is("the first", t.way(1, 1, 0), 1);
        Due.is("the last", t.way(1, 1, 1), 2);
        Due.is("one beyond", t.way(1, 1, 2), NONE);
        Due.is("five", t.way(1, 1, 5), NONE);
        Due.is("six", t.way(1, 1, 6), NONE);
        Due.is("far beyond", t.way(1, 1, Integer.MAX_VALUE), NONE);
    }

    /** "BAD: driver, way, i is below 0". */
    private static void wayRefused() {
        SelfishTown t = Towns.lively();
        for (int driver : Towns.outside(0, 1)) {
            Due.is("way(" + driver + ", 0, 0)", t.way(driver, 0, 0), BAD);
            Due.is("way(" + driver + ", 0, 9)", t.way(driver, 0, 9), BAD);
        }
        for (int k : Towns.outside(0, 1)) {
            Due.is("way(0, " + k + ", 0)", t.way(0, k, 0), BAD);
            Due.is("way(0, " + k + ", 9)", t.way(0, k, 9), BAD);
        }
        Due.is("way(0, 0, -1)", t.way(0, 0, -1), BAD);
        Due.is("way(0, 0, MIN)", t.way(0, 0, Integer.MIN_VALUE), BAD);
    }

    // ---- promise 14

    /** "WAY k, or none (-1): what it was". */
    private static void chooseFirstLastNone() {
        SelfishTown t = Towns.full();
        Due.is("the first", t.choose(4, 0), 5);
        Due.is("the last", t.choose(4, 9), 0);
        Due.is("none", t.choose(4, -1), 9);
        Due.is("none again", t.choose(4, -1), NONE);
        Due.is("the last", t.choose(4, 9), NONE);
        Due.is("again", t.choose(4, 9), 9);
    }

    private static void chooseRefused() {
        for (int k : Towns.outside(-1, 1)) {
            Still.refused("choose(0, " + k + ")", Towns::lively, t -> t.choose(0, k), BAD);
        }
        for (int driver : Towns.outside(0, 1)) {
            Still.refused("choose(" + driver + ", 0)", Towns::lively, t -> t.choose(driver, 0), BAD);
            Still.refused("choose(" + driver + ", -1)", Towns::lively, t -> t.choose(driver, -1), BAD);
        }
        Still.refused("choose(5, 0)", Towns::full, t -> t.choose(5, 0), BAD);
        Still.refused("choose(4, 10)", Towns::full, t -> t.choose(4, 10), BAD);
        SelfishTown noWay = new SelfishTown();
        noWay.driver(0, 1);
        Due.is("no way to choose", noWay.choose(0, 0), BAD);
        Due.is("none can be chosen", noWay.choose(0, -1), NONE);
    }

    /** "as a ROAD comes .. all have none": wherever it goes, but not one that is refused. */
    private static void choicesGoAsARoadComes() {
        SelfishTown t = Towns.lively();
        Due.is("count(4)", t.count(4), 2);
        t.road(0, 6, 5, 0, 0);
        Due.is("count(4) after BAD", t.count(4), 2);
        t.road(0, 4, 5, 0, 0);
        Due.is("count(4)", t.count(4), 0);
        Due.is("told(0, 0)", t.told(0, 0), NONE);
        Due.is("told(1, 0)", t.told(1, 0), NONE);
        Due.is("USE", t.about(2, 7), 0);
        SelfishTown full = Towns.full();
        full.road(0, 4, 5, 0, 0);
        Due.is("count(4) after FULL", full.count(4), 5);
    }

    /** "is OPEN or SHUT otherwise than before, all have none". */
    private static void choicesGoAsARoadOpensOrShuts() {
        SelfishTown t = Towns.lively();
        t.open(0, 1);
        t.open(3, 0);
        Due.is("count(4): as before", t.count(4), 2);
        t.open(3, 1);
        Due.is("count(4): opened", t.count(4), 0);
        t.undo();
        Due.is("count(4) undone", t.count(4), 2);
        t.open(1, 0);
        Due.is("count(4): shut", t.count(4), 0);
        t.choose(0, 0);
        t.open(1, 0);
        Due.is("count(4): shut as before", t.count(4), 1);
    }

    /** No other change takes a CHOICE. */
    private static void choicesStay() {
        SelfishTown t = Towns.lively();
        t.toll(0, 100000);
        t.table(2, 0, 3);
        t.enter(2, 0, 127);
        t.table(1, 0, 3);
        t.copy(2, 1, 3);
        t.table(2, 0, -1);
        t.driver(4, 5);
        Due.is("told(0, 0)", t.told(0, 0), 0);
        Due.is("told(1, 0)", t.told(1, 0), 1);
    }

    // ---- promise 15

    /** "what 0 the CHOICE (NONE), 1 TIME, 2 COST (NONE without a CHOICE), 3, 4 the PLACES". */
    private static void toldWithoutChoice() {
        SelfishTown t = Towns.lively();
        t.choose(1, -1);
        int[] due = {NONE, NONE, NONE, 0, 2};
        for (int what = 0; what <= 4; what++) {
            Due.is("told(1, " + what + ")", t.told(1, what), due[what]);
        }
        int[] other = {0, 3, 3, 0, 1};
        for (int what = 0; what <= 4; what++) {
            Due.is("told(0, " + what + ")", t.told(0, what), other[what]);
        }
    }

    /** Five drivers on a way of five roads whose tables are MISSING, with the greatest tolls. */
    private static SelfishTown slowest() {
        SelfishTown t = new SelfishTown();
        for (int i = 0; i < 5; i++) {
            t.road(3, i, i + 1, 12, 1000);
            t.toll(i, 100000);
        }
        for (int d = 0; d < 5; d++) {
            t.driver(0, 5);
            t.choose(d, 0);
        }
        return t;
    }

    /** "what all ROADS of the WAY take together", "(of each DRIVER the whole TOLL)", as great as can be. */
    private static void toldGreatest() {
        SelfishTown t = slowest();
        for (int d = 0; d < 5; d++) {
            Due.is("TIME", t.told(d, 1), 5000000);
            Due.is("COST", t.told(d, 2), 5500000);
        }
        Due.is("SUM", t.now(0), 25000000);
        Due.is("MOST", t.now(1), 5000000);
        Due.is("RESTS", t.now(2), 1);
        Due.is("store()", t.store(), 27500000);
        Due.is("best()", t.best(), 25000000);
        Due.is("rest(0)", t.rest(0), 25000000);
        Due.is("extreme(0)", t.extreme(0), 25000000);
        Due.is("extreme(1)", t.extreme(1), 25000000);
        Due.is("extreme(2)", t.extreme(2), 5000000);
        Due.is("price(0)", t.price(0), 1);
        Due.is("price(1)", t.price(1), 1);
        Due.is("queue()", t.queue(), 25000000);
    }

    private static void toldRefused() {
        for (int what : Towns.outside(0, 4)) {
            Due.is("told(0, " + what + ")", Towns.lively().told(0, what), BAD);
            Due.is("told(0, " + what + ") without a choice", Towns.calm().told(0, what), BAD);
        }
        for (int driver : Towns.outside(0, 1)) {
            for (int what = -1; what <= 5; what++) {
                Due.is("told(" + driver + ", " + what + ")", Towns.lively().told(driver, what), BAD);
            }
        }
        Due.is("told(4, 0)", Towns.full().told(4, 0), 5);
        Due.is("told(5, 0)", Towns.full().told(5, 0), BAD);
    }

    // ---- promise 16

    /** "NO: some DRIVER has none", whichever it is. */
    private static void nowWithSomeWithout() {
        for (int without = 0; without < 5; without++) {
            SelfishTown t = Towns.full();
            Due.is("count(4)", t.count(4), 5);
            Due.holds("all have a choice", t.now(0) >= 0);
            t.choose(without, -1);
            for (int what = 0; what <= 2; what++) {
                Due.is("now(" + what + ")", t.now(what), NO);
            }
        }
    }

    /** "ITS MOST: the greatest TIME", whoever has it. */
    private static void nowMostOfEach() {
        for (int slow = 0; slow < 5; slow++) {
            SelfishTown t = new SelfishTown();
            t.road(2, 0, 1, 0, 1);
            t.road(2, 2, 3, 0, 1000);
            for (int d = 0; d < 5; d++) {
                t.driver(d == slow ? 2 : 0, d == slow ? 3 : 1);
                t.choose(d, 0);
            }
            Due.is("SUM", t.now(0), 1004);
            Due.is("MOST", t.now(1), 1000);
            Due.is("extreme(2)", t.extreme(2), 1000);
        }
    }

    /** "no DRIVER has another WAY that would have a lesser COST": as much is not less. */
    private static void nowOfEquals() {
        for (int b = 3; b <= 5; b++) {
            SelfishTown t = new SelfishTown();
            t.road(0, 0, 1, 2, 0);
            t.road(2, 0, 1, 0, b);
            t.driver(0, 1);
            t.driver(0, 1);
            t.choose(0, 0);
            t.choose(1, 0);
            Due.is("now(2) with b " + b, t.now(2), b < 4 ? 0 : 1);
            t.toll(1, 1);
            Due.is("now(2) with b " + b + " and a toll", t.now(2), 1);
            t.toll(0, 2);
            Due.is("now(2) with b " + b + " and both", t.now(2), b + 1 < 6 ? 0 : 1);
        }
    }

    /** "BAD; NO": of several the first. */
    private static void nowRefused() {
        for (int what : Towns.outside(0, 2)) {
            Still.refused("now(" + what + ")", Towns::lively, t -> t.now(what), BAD);
            Still.refused("now(" + what + ") without a choice", Towns::calm, t -> t.now(what), BAD);
            Due.is("now(" + what + ") without drivers", new SelfishTown().now(what), BAD);
        }
        Still.refused("now(0) without a choice", Towns::calm, t -> t.now(0), NO);
    }

    // ---- promise 17

    /** "for each ROAD what it takes with 1, 2, .., USE drivers, and the TOLL that often": also if some have none. */
    private static void storeOfSome() {
        SelfishTown t = Towns.sideBySide(1, 5);
        t.toll(0, 10);
        int due = 0;
        Due.is("store() of none", t.store(), 0);
        for (int d = 4; d >= 0; d--) {
            t.choose(d, 0);
            due += 5 - d + 10;
            Due.is("store() of " + (5 - d), t.store(), due);
        }
        t.choose(2, -1);
        Due.is("store() of four", t.store(), due - 15);
    }

    // ---- promise 18

    /** "(of several the least)". */
    private static void replyOfEquals() {
        SelfishTown t = Towns.sideBySide(10, 1);
        Due.is("all alike", t.reply(0), 0);
        t.choose(0, 9);
        Due.is("not the own choice", t.reply(0), 0);
        for (int r = 0; r < 9; r++) {
            t.toll(r, 1);
            Due.is("the first without a toll", t.reply(0), r + 1);
        }
        t.toll(9, 1);
        Due.is("all alike again", t.reply(0), 0);
    }

    /** "the others staying": those without a CHOICE are on no road, and the driver itself counts once. */
    private static void replyWithoutOneself() {
        SelfishTown t = new SelfishTown();
        t.road(0, 0, 1, 1, 0);
        t.road(2, 0, 1, 0, 2);
        t.driver(0, 1);
        t.driver(0, 1);
        t.driver(0, 1);
        Due.is("the others have none", t.reply(0), 0);
        t.choose(1, 0);
        Due.is("two are as much", t.reply(0), 0);
        t.choose(0, 0);
        Due.is("being there is no third", t.reply(0), 0);
        t.choose(2, 0);
        Due.is("three are too many", t.reply(0), 1);
        Due.is("for each of them", t.reply(2), 1);
    }

    /** "BAD; NO: there is no WAY." */
    private static void replyRefused() {
        for (int driver : Towns.outside(0, 1)) {
            Still.refused("reply(" + driver + ")", Towns::lively, t -> t.reply(driver), BAD);
        }
        Supplier<SelfishTown> noWay = () -> {
            SelfishTown t = Towns.lively();
            t.driver(2, 0);
            return t;
        };
        Still.refused("reply(2) without a way", noWay, t -> t.reply(2), NO);
        Still.refused("reply(3)", noWay, t -> t.reply(3), BAD);
        Due.is("reply(0): of another", noWay.get().reply(0), 0);
    }

    // ---- promise 28

    private static SelfishTown crowded() {
        SelfishTown t = Towns.sideBySide(5, 5);
        for (int d = 0; d < 5; d++) {
            t.choose(d, 0);
        }
        return t;
    }

    /** "n times (1 .. 200) at most .. till it RESTS: how many did". */
    private static void betterSoManyTimes() {
        int[] each = {1, 2, 3, 4};
        for (int n = 1; n <= 6; n++) {
            SelfishTown t = crowded();
            int did = Math.min(4, n);
            Due.is("better(" + n + ")", t.better(n), did);
            for (int d = 0; d < 5; d++) {
                Due.is("told(" + d + ", 0)", t.told(d, 0), d < did ? each[d] : 0);
            }
            Due.is("now(2)", t.now(2), did == 4 ? 1 : 0);
        }
        Due.is("better(200)", crowded().better(200), 4);
        Due.is("better(199)", crowded().better(199), 4);
        Still.undone("better(200)", EdgesOfDriversTest::crowdedWithRoom, t -> t.better(200));
    }

    private static SelfishTown crowdedWithRoom() {
        SelfishTown t = crowded();
        t.toll(0, 1);
        t.undo();
        return t;
    }

    private static void betterAtRest() {
        SelfishTown t = crowded();
        t.better(200);
        int store = t.store();
        Due.is("better(1)", t.better(1), 0);
        Due.is("better(200)", t.better(200), 0);
        Due.is("store()", t.store(), store);
        SelfishTown alone = Towns.calm();
        alone.choose(0, 0);
        Due.is("better(1): as low as can be", alone.better(1), 0);
        alone.toll(0, 1);
        Due.is("better(1): as much is not less", alone.better(1), 0);
        alone.toll(0, 2);
        Due.is("better(1): less", alone.better(1), 1);
        Due.is("told(0, 0)", alone.told(0, 0), 1);
    }

    /** "BAD; NO: some DRIVER has no CHOICE." */
    private static void betterRefused() {
        for (int n : Towns.outside(1, 200)) {
            Still.refused("better(" + n + ")", EdgesOfDriversTest::crowded, t -> t.better(n), BAD);
            Still.refused("better(" + n + ") without a choice", Towns::calm, t -> t.better(n), BAD);
            Due.is("better(" + n + ") without drivers", new SelfishTown().better(n), BAD);
        }
        Still.refused("better(1) without a choice", Towns::calm, t -> t.better(1), NO);
        for (int d = 0; d < 5; d++) {
            int without = d;
            Supplier<SelfishTown> make = () -> {
                SelfishTown t = crowded();
                t.choose(without, -1);
                return t;
            };
            Still.refused("better(200), " + d + " has none", make, t -> t.better(200), NO);
        }
    }

    // ---- promise 29

    /** "All have none, then one by one, by their numbers, each takes the reply()". */
    private static void queueBeginsAnew() {
        for (int first = -1; first < 2; first++) {
            SelfishTown t = Towns.sideBySide(2, 3);
            for (int d = 0; d < 3; d++) {
                t.choose(d, first);
            }
            Due.is("queue()", t.queue(), 2 + 1 + 2);
            for (int d = 0; d < 3; d++) {
                Due.is("told(" + d + ", 0)", t.told(d, 0), d % 2);
            }
        }
    }

    /** No LARGE stands with it. */
    private static void queueOfMany() {
        SelfishTown t = Towns.sideBySide(10, 5);
        Due.is("habits()", t.habits(), LARGE);
        Due.is("queue()", t.queue(), 5);
        for (int d = 0; d < 5; d++) {
            Due.is("told(" + d + ", 0)", t.told(d, 0), d);
        }
    }

    /** "NO: some DRIVER has no WAY", the first, the last, or the one that there is. */
    private static void queueRefused() {
        for (int which = 0; which < 3; which++) {
            int without = which;
            Supplier<SelfishTown> make = () -> {
                SelfishTown t = Towns.sideBySide(2, 0);
                for (int d = 0; d < 3; d++) {
                    t.driver(d == without ? 1 : 0, d == without ? 0 : 1);
                    t.choose(d, d == without ? -1 : 1);
                }
                return t;
            };
            Still.refused("queue(), " + which + " has no way", make, SelfishTown::queue, NO);
        }
        SelfishTown alone = new SelfishTown();
        alone.driver(0, 1);
        Due.is("queue() without roads", alone.queue(), NO);
        SelfishTown shut = Towns.sideBySide(1, 1);
        shut.open(0, 0);
        Due.is("queue() with all shut", shut.queue(), NO);
    }

    // ---- promise 30

    /** One road for all of them; its table tells what it takes with drivers - 1 and with all. */
    private static SelfishTown onTable(int drivers, int before, int all) {
        SelfishTown t = new SelfishTown();
        t.road(3, 0, 1, 0, 0);
        t.table(0, 1, 6);
        t.enter(0, drivers - 2, before);
        t.enter(0, drivers - 1, all);
        for (int d = 0; d < drivers; d++) {
            t.driver(0, 1);
        }
        t.toll(0, 77);
        return t;
    }

    private static void lesson(int drivers, int before, int all, int due) {
        SelfishTown t = onTable(drivers, before, all);
        Due.is("teach()", t.teach(), 1);
        Due.is(drivers + " with " + before + ", " + all, t.about(0, 5), due);
    }

    /** "(x - 1) times what it takes with x more than with x - 1 (.. 100000 at most; 0 if that is below 0)". */
    private static void teachLimits() {
        lesson(2, 0, 99999, 99999);
        lesson(2, 0, 100000, 100000);
        lesson(3, 0, 49999, 99998);
        lesson(3, 0, 50000, 100000);
        lesson(3, 0, 50001, 100000);
        lesson(5, 0, 25000, 100000);
        lesson(5, 0, 25001, 100000);
        lesson(5, 0, 100000, 100000);
        lesson(5, 7, 8, 4);
        lesson(5, 7, 7, 0);
        lesson(5, 8, 7, 0);
        lesson(5, 100000, 0, 0);
        SelfishTown ends = onTable(2, 0, 0);
        ends.table(0, 1, 1);
        ends.teach();
        Due.is("no place for the second", ends.about(0, 5), 100000);
        ends.enter(0, 0, 100000);
        ends.teach();
        Due.is("900000 more", ends.about(0, 5), 100000);
        ends.table(0, 1, -1);
        ends.teach();
        Due.is("MISSING: no more than with one", ends.about(0, 5), 0);
    }

    /** "(0 with x below 2 ..)", of each ROAD, also one that is SHUT. */
    private static void teachOfFew() {
        SelfishTown t = Towns.sideBySide(3, 2);
        t.open(2, 0);
        for (int r = 0; r < 3; r++) {
            t.toll(r, 5);
        }
        Due.is("teach()", t.teach(), 1);
        Due.is("USE 1", t.about(0, 7), 1);
        for (int r = 0; r < 3; r++) {
            Due.is("about(" + r + ", 5)", t.about(r, 5), 0);
        }
        SelfishTown none = Towns.sideBySide(1, 0);
        none.toll(0, 5);
        Due.is("teach() without drivers", none.teach(), 1);
        Due.is("about(0, 5)", none.about(0, 5), 0);
    }

    /** "BEST is the CHOICES: whether it RESTS then (1, 0)": with the new TOLLS, not the old ones. */
    private static void teachWhetherItRests() {
        SelfishTown t = Towns.harmed(4);
        Due.is("teach()", t.teach(), 0);
        Due.is("now(2)", t.now(2), 0);
        Due.is("now(0)", t.now(0), 280);
        SelfishTown tolled = Towns.sideBySide(2, 2);
        tolled.toll(0, 100000);
        tolled.best();
        Due.is("now(2) with the old toll", tolled.now(2), 0);
        Due.is("teach()", tolled.teach(), 1);
        Still.undone("teach()", Towns::livelyWithRoom, SelfishTown::teach);
    }

    /** "LARGE; NO." */
    private static void teachRefused() {
        Supplier<SelfishTown> large = () -> {
            SelfishTown t = Towns.sideBySide(5, 5);
            t.toll(3, 9);
            t.choose(2, 2);
            return t;
        };
        Still.refused("teach() of 3125", large, SelfishTown::teach, LARGE);
        Supplier<SelfishTown> noWay = () -> {
            SelfishTown t = Towns.lively();
            t.driver(5, 0);
            return t;
        };
        Still.refused("teach() without a way", noWay, SelfishTown::teach, NO);
    }
}
