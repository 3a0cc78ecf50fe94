import java.util.function.Supplier;
import java.util.function.ToLongFunction;

/** The boundary cases of Terms 3 and of promises 19 to 27, a test for each sentence that names one. */
public final class EdgesOfHabitsTest {
    private static final int NONE = -1, BAD = -3, NO = -4, LARGE = -6;

    public static void main(String[] args) {
        justAsManyAsCanBe();
        lastOfAsManyAsCanBe();
        justTooMany();
        asManyAgain();
        tooManyForEach();
        noWayForEach();
        habitFirstAndLast();
        habitWithOneWay();
        habitRefused();
        bestFirstOfSeveral();
        bestIsTheLastHabit();
        restsAlwaysOne();
        restFirstAndLast();
        restBelowZero();
        restNotSoMany();
        extremeEach();
        extremeRefused();
        priceOfNothing();
        priceLowestTerms();
        priceGreatest();
        priceRefused();
        harmsLessNotAsMuch();
        harmsAsBits();
        harmsOnlyIfOpen();
        harmsOnlyIfNotNeeded();
        agreesSoMany();
        agreesLessNotAsMuch();
        agreesLeastHeap();
        agreesRefused();
        Due.end();
    }

    /** 4 * 4 * 5 * 5 * 5 HABITS, all alike. */
    private static SelfishTown twoThousand() {
        SelfishTown t = new SelfishTown();
        for (int r = 0; r < 9; r++) {
            t.road(2, r < 4 ? 0 : 2, r < 4 ? 1 : 3, 0, 1);
        }
        for (int d = 0; d < 5; d++) {
            t.driver(d < 2 ? 0 : 2, d < 2 ? 1 : 3);
        }
        return t;
    }

    /** 13 * 11 * 7 * 2 HABITS. */
    private static SelfishTown twoThousandAndTwo() {
        int[][] roads = {{3, 1}, {4, 5}, {3, 4}, {4, 5}, {1, 2}, {3, 4}, {1, 4}, {2, 3}, {2, 5}, {2, 3}};
        int[][] drivers = {{2, 5}, {1, 5}, {3, 5}, {1, 3}};
        SelfishTown t = new SelfishTown();
        for (int[] road : roads) {
            t.road(2, road[0], road[1], 0, 1);
        }
        for (int[] driver : drivers) {
            t.driver(driver[0], driver[1]);
        }
        return t;
    }

    private static SelfishTown withoutWay() {
        SelfishTown t = Towns.lively();
        t.driver(2, 0);
        return t;
    }

    // ---- promise 19

    /** "All there are are gone through only if they are 2000 at most". */
    private static void justAsManyAsCanBe() {
        Due.is("habits()", twoThousand().habits(), 2000);
        Due.is("habit(0)", twoThousand().habit(0), 0);
        Due.is("habit(1999)", twoThousand().habit(1999), 0);
        Due.is("habit(2000)", twoThousand().habit(2000), BAD);
        Due.is("best()", twoThousand().best(), 5);
        Due.is("rests()", twoThousand().rests(), 2000);
        Due.is("rest(1999)", twoThousand().rest(1999), 5);
        Due.is("rest(2000)", twoThousand().rest(2000), NONE);
        Due.is("extreme(0)", twoThousand().extreme(0), 5);
        Due.is("extreme(1)", twoThousand().extreme(1), 5);
        Due.is("extreme(2)", twoThousand().extreme(2), 1);
        Due.is("price(0)", twoThousand().price(0), 1);
        Due.is("price(1)", twoThousand().price(1), 1);
        Due.is("harms()", twoThousand().harms(), 0);
        Due.is("teach()", twoThousand().teach(), 1);
        SelfishTown t = twoThousand();
        t.habit(1999);
        Due.is("agrees()", t.agrees(), NONE);
        t.toll(3, 1);
        Due.is("agrees() with a toll", t.agrees(), 1);
    }

    /** 20 * 20 * 5 HABITS; only by the last of them all gain, or the SUM is least. */
    private static void lastOfAsManyAsCanBe() {
        SelfishTown t = new SelfishTown();
        for (int r = 0; r < 8; r++) {
            t.road(2, r < 4 ? 0 : 1, r < 4 ? 1 : 2, 0, r < 3 ? 1000 : 50);
        }
        t.road(3, 1, 2, 0, 0);
        t.table(8, 0, 3);
        t.enter(8, 0, 100);
        t.enter(8, 1, 100);
        t.driver(0, 2);
        t.driver(0, 2);
        t.driver(1, 2);
        t.choose(0, 15);
        t.choose(1, 15);
        t.choose(2, 0);
        Due.is("habits()", t.habits(), 2000);
        Due.is("now(0)", t.now(0), 250);
        Due.is("now(2)", t.now(2), 1);
        Due.is("agrees()", t.agrees(), 7);
        Due.is("best()", t.best(), 100);
        int[] last = {19, 19, 4};
        for (int d = 0; d < 3; d++) {
            Due.is("told(" + d + ", 0)", t.told(d, 0), last[d]);
        }
        Due.is("agrees() against it", t.agrees(), NONE);
    }

    /** "(else LARGE)": of 2002 and of 2048. */
    private static void justTooMany() {
        int[] ways = {13, 11, 7, 2};
        for (int d = 0; d < 4; d++) {
            Due.is("ways(" + d + ")", twoThousandAndTwo().ways(d), ways[d]);
        }
        Due.is("13 * 11 * 7 * 2", twoThousandAndTwo().habits(), LARGE);
        SelfishTown powers = Towns.steps();
        powers.driver(0, 5);
        powers.driver(0, 4);
        powers.driver(0, 1);
        Due.is("32 * 16 * 2", powers.habits(), 1024);
        powers.driver(2, 3);
        Due.is("32 * 16 * 2 * 2", powers.habits(), LARGE);
        SelfishTown most = new SelfishTown();
        for (int r = 0; r < 10; r++) {
            most.road(2, r < 3 ? 0 : r < 7 ? 1 : 2, r < 3 ? 1 : r < 7 ? 2 : 3, 0, 1);
        }
        for (int d = 0; d < 5; d++) {
            most.driver(0, 3);
        }
        Due.is("36 * 36 * 36 * 36 * 36", most.habits(), LARGE);
    }

    /** A driver or a road less, and they can be gone through. */
    private static void asManyAgain() {
        SelfishTown t = twoThousandAndTwo();
        t.undo();
        Due.is("13 * 11 * 7", t.habits(), 1001);
        t.driver(1, 3);
        Due.is("13 * 11 * 7 * 2", t.habits(), LARGE);
        t.open(9, 0);
        Due.is("with a road shut", t.habits(), (1 + 4 + 2) * (2 + 1 + 4) * 7);
        t.open(9, 1);
        Due.is("with it open", t.habits(), LARGE);
    }

    private static void refusedByEach(Supplier<SelfishTown> make, int due) {
        refused("habits()", make, SelfishTown::habits, due);
        refused("best()", make, SelfishTown::best, due);
        refused("rests()", make, SelfishTown::rests, due);
        refused("harms()", make, SelfishTown::harms, due);
        refused("agrees()", make, SelfishTown::agrees, due);
        refused("teach()", make, SelfishTown::teach, due);
        for (int k : new int[] {0, 1, 2, 2000, -1, Integer.MIN_VALUE, Integer.MAX_VALUE}) {
            refused("habit(" + k + ")", make, t -> t.habit(k), due);
            refused("rest(" + k + ")", make, t -> t.rest(k), due);
            refused("extreme(" + k + ")", make, t -> t.extreme(k), due);
            refused("price(" + k + ")", make, t -> t.price(k), due);
        }
    }

    private static void refused(String call, Supplier<SelfishTown> make, ToLongFunction<SelfishTown> made, int due) {
        Still.refused(call + ", due " + due, make, made, due);
    }

    /** "LARGE" stands ahead of all else, whether they have CHOICES or not. */
    private static void tooManyForEach() {
        refusedByEach(EdgesOfHabitsTest::twoThousandAndTwo, LARGE);
        refusedByEach(Towns::full, LARGE);
        refusedByEach(() -> Towns.sideBySide(5, 5), LARGE);
    }

    /** "none if some DRIVER has no WAY (NO)", ahead of BAD. */
    private static void noWayForEach() {
        refusedByEach(EdgesOfHabitsTest::withoutWay, NO);
        refusedByEach(() -> Towns.sideBySide(0, 1), NO);
        refusedByEach(() -> Towns.sideBySide(0, 5), NO);
        Supplier<SelfishTown> shut = () -> {
            SelfishTown t = Towns.sideBySide(1, 2);
            t.open(0, 0);
            return t;
        };
        refusedByEach(shut, NO);
    }

    // ---- promise 20

    /** "HABITS are in order by the CHOICE of DRIVER 0, then 1, and so on". */
    private static void habitFirstAndLast() {
        SelfishTown t = Towns.sideBySide(4, 5);
        Due.is("habit(0)", t.habit(0), 0);
        for (int d = 0; d < 5; d++) {
            Due.is("told(" + d + ", 0) of the first", t.told(d, 0), 0);
        }
        Due.is("habit(1)", t.habit(1), 0);
        Due.is("the last driver's changes first", t.told(4, 0), 1);
        Due.is("habit(256)", t.habit(256), 0);
        Due.is("the first driver's changes last", t.told(0, 0), 1);
        Due.is("habit(1023)", t.habit(1023), 0);
        for (int d = 0; d < 5; d++) {
            Due.is("told(" + d + ", 0) of the last", t.told(d, 0), 3);
        }
        Still.undone("habit(3)", Towns::livelyWithRoom, x -> x.habit(3));
    }

    /** A driver with one WAY makes no more of them, wherever it stands. */
    private static void habitWithOneWay() {
        for (int single = 0; single < 3; single++) {
            SelfishTown t = Towns.sideBySide(2, 0);
            t.road(0, 2, 3, 1, 1);
            for (int d = 0; d < 3; d++) {
                t.driver(d == single ? 2 : 0, d == single ? 3 : 1);
            }
            Due.is("habits()", t.habits(), 4);
            for (int k = 0; k < 4; k++) {
                Due.is("habit(" + k + ")", t.habit(k), 0);
                Due.is("of the one", t.told(single, 0), 0);
                Due.is("of the first other", t.told(single == 0 ? 1 : 0, 0), k / 2);
                Due.is("of the last other", t.told(single == 2 ? 1 : 2, 0), k % 2);
            }
        }
    }

    /** "BAD: there is none such". */
    private static void habitRefused() {
        for (int k : Towns.outside(0, 3)) {
            Still.refused("habit(" + k + ")", Towns::lively, t -> t.habit(k), BAD);
        }
        for (int k : Towns.outside(0, 0)) {
            Still.refused("habit(" + k + ") of nobody", SelfishTown::new, t -> t.habit(k), BAD);
        }
    }

    // ---- promise 21

    /** "the HABIT of the least SUM, the first of several": by TIMES, not COSTS. */
    private static void bestFirstOfSeveral() {
        SelfishTown t = Towns.sideBySide(3, 3);
        t.toll(0, 100000);
        Due.is("best()", t.best(), 3);
        for (int d = 0; d < 3; d++) {
            Due.is("told(" + d + ", 0)", t.told(d, 0), d);
        }
        SelfishTown free = new SelfishTown();
        free.road(2, 0, 1, 0, 0);
        free.road(0, 0, 1, 0, 0);
        free.driver(0, 1);
        free.choose(0, 1);
        Due.is("best() of nothing", free.best(), 0);
        Due.is("told(0, 0)", free.told(0, 0), 0);
        Still.undone("best()", Towns::livelyWithRoom, SelfishTown::best);
    }

    /** Where each driver's last WAY is the only fast one. */
    private static void bestIsTheLastHabit() {
        SelfishTown t = new SelfishTown();
        for (int i = 0; i < 5; i++) {
            t.road(2, i, i + 1, 0, 9);
            t.road(2, i, i + 1, 0, 1);
            t.driver(i, i + 1);
        }
        Due.is("best()", t.best(), 5);
        for (int d = 0; d < 5; d++) {
            Due.is("told(" + d + ", 0)", t.told(d, 0), 1);
        }
        Due.is("now(2)", t.now(2), 1);
        Due.is("rest(0)", t.rest(0), 5);
        Due.is("teach()", t.teach(), 1);
    }

    // ---- promises 22 and 23

    /** "(There is always one.)" */
    private static void restsAlwaysOne() {
        Due.is("of nobody", new SelfishTown().rests(), 1);
        Due.is("of one who has one way", Towns.sideBySide(1, 1).rests(), 1);
        Due.is("of five who have one way", Towns.sideBySide(1, 5).rests(), 1);
        Due.is("of one with ten ways alike", Towns.sideBySide(10, 1).rests(), 10);
        Due.is("of two with ten ways", Towns.sideBySide(10, 2).rests(), 90);
        Due.is("of five with four roads", Towns.sideBySide(4, 5).rests(), 4 * 10 * 6);
    }

    /** "RESTS are numbered from 0 in order", "REST k is the CHOICES: its SUM". */
    private static void restFirstAndLast() {
        SelfishTown t = Towns.sideBySide(10, 2);
        Due.is("rest(0)", t.rest(0), 2);
        Due.is("told(0, 0)", t.told(0, 0), 0);
        Due.is("told(1, 0)", t.told(1, 0), 1);
        Due.is("rest(9)", t.rest(9), 2);
        Due.is("told(0, 0)", t.told(0, 0), 1);
        Due.is("told(1, 0)", t.told(1, 0), 0);
        Due.is("rest(89)", t.rest(89), 2);
        Due.is("told(0, 0)", t.told(0, 0), 9);
        Due.is("told(1, 0)", t.told(1, 0), 8);
        Due.is("rest(90)", t.rest(90), NONE);
        Due.is("told(0, 0)", t.told(0, 0), 9);
        Still.undone("rest(0)", Towns::livelyWithRoom, x -> x.rest(0));
    }

    /** "BAD: k is below 0". */
    private static void restBelowZero() {
        Still.refused("rest(-1)", Towns::lively, t -> t.rest(-1), BAD);
        Still.refused("rest(MIN)", Towns::lively, t -> t.rest(Integer.MIN_VALUE), BAD);
        Still.refused("rest(-1) of nobody", SelfishTown::new, t -> t.rest(-1), BAD);
    }

    /** "NONE: there are not so many": NONE is not among the answers of a refused call, so undo() comes upon it. */
    private static void restNotSoMany() {
        int rests = Towns.lively().rests();
        for (int k : new int[] {rests, rests + 1, 2000, Integer.MAX_VALUE}) {
            Due.is("rest(" + k + ")", Towns.lively().rest(k), NONE);
            Still.undone("rest(" + k + ")", Towns::livelyWithRoom, t -> t.rest(k));
        }
        SelfishTown t = Towns.lively();
        t.rest(rests);
        Due.is("told(0, 0)", t.told(0, 0), 0);
        Due.is("told(1, 0)", t.told(1, 0), 1);
    }

    // ---- promise 24

    /** "The least SUM of a REST (what 0), the greatest (1), the least MOST of any HABIT (2)". */
    private static void extremeEach() {
        SelfishTown t = new SelfishTown();
        t.road(2, 0, 1, 0, 0);
        t.road(2, 0, 1, 0, 9);
        t.driver(0, 1);
        Due.is("extreme(0)", t.extreme(0), 0);
        Due.is("extreme(1)", t.extreme(1), 0);
        t.toll(0, 9);
        Due.is("extreme(0): both rest", t.extreme(0), 0);
        Due.is("extreme(1): both rest", t.extreme(1), 9);
        t.toll(0, 10);
        Due.is("extreme(0): the slow one rests", t.extreme(0), 9);
        Due.is("extreme(1)", t.extreme(1), 9);
        Due.is("extreme(2): of any habit, by times", t.extreme(2), 0);
    }

    private static void extremeRefused() {
        for (int what : Towns.outside(0, 2)) {
            Still.refused("extreme(" + what + ")", Towns::lively, t -> t.extreme(what), BAD);
            Due.is("extreme(" + what + ") of nobody", new SelfishTown().extreme(what), BAD);
        }
    }

    // ---- promise 25

    /** One driver; a free road with a toll, and one that takes b. */
    private static SelfishTown free(int toll, int b) {
        SelfishTown t = new SelfishTown();
        t.road(2, 0, 1, 0, 0);
        t.road(2, 0, 1, 0, b);
        t.driver(0, 1);
        t.toll(0, toll);
        return t;
    }

    /** "(1 / 1, if both are 0; NONE, if only that of BEST is 0)". */
    private static void priceOfNothing() {
        for (int part = 0; part <= 1; part++) {
            Due.is("both 0", free(0, 1).price(part), 1);
            Due.is("both 0, two free roads", free(0, 0).price(part), 1);
            Due.is("of several rests the greatest", free(1, 1).price(part), NONE);
            Due.is("only BEST is 0", free(2, 1).price(part), NONE);
        }
        Due.is("BAD ahead of NONE", free(2, 1).price(2), BAD);
        Due.is("BAD ahead of NONE", free(2, 1).price(-1), BAD);
    }

    /** "a FRACTION is told above the line and below it, in lowest terms". */
    private static void priceLowestTerms() {
        int[][] due = {{1000, 600, 5, 3}, {1000, 1, 1000, 1}, {1000, 999, 1000, 999}, {1000, 500, 2, 1}, {7, 7, 1, 1}};
        for (int[] row : due) {
            SelfishTown t = new SelfishTown();
            t.road(2, 0, 1, 0, row[0]);
            t.road(2, 0, 1, 0, row[1]);
            t.driver(0, 1);
            t.toll(1, 2000);
            Due.is("above", t.price(0), row[2]);
            Due.is("below", t.price(1), row[3]);
        }
    }

    private static void priceGreatest() {
        SelfishTown t = new SelfishTown();
        t.road(2, 0, 1, 0, 1);
        t.road(3, 0, 1, 0, 0);
        t.table(1, 1, 5);
        for (int i = 0; i < 5; i++) {
            t.enter(1, i, 100000);
        }
        t.toll(0, 100000);
        for (int d = 0; d < 5; d++) {
            t.driver(0, 1);
        }
        Due.is("above", t.price(0), 100000);
        Due.is("below", t.price(1), 1);
        Due.is("extreme(1)", t.extreme(1), 500000);
    }

    private static void priceRefused() {
        for (int part : Towns.outside(0, 1)) {
            Still.refused("price(" + part + ")", Towns::lively, t -> t.price(part), BAD);
            Due.is("price(" + part + ") of nobody", new SelfishTown().price(part), BAD);
        }
    }

    // ---- promise 26

    /** "the greatest SUM of all RESTS would be less if it were SHUT": as much is not less. */
    private static void harmsLessNotAsMuch() {
        for (int b = 3; b <= 5; b++) {
            SelfishTown t = new SelfishTown();
            t.road(2, 0, 1, 0, 4);
            t.road(2, 0, 1, 0, b);
            t.driver(0, 1);
            t.toll(1, 100);
            Due.is("harms(), " + b + " without it", t.harms(), b < 4 ? 1 : 0);
        }
        Still.asBefore("harms()", Towns::lively, SelfishTown::harms);
        Still.asBefore("harms()", () -> Towns.harmed(4), SelfishTown::harms);
    }

    /** "ROADS that HARM, as bits": the first and the last number, and two at once. */
    private static void harmsAsBits() {
        SelfishTown t = new SelfishTown();
        t.road(2, 0, 1, 0, 8);
        for (int r = 1; r < 9; r++) {
            t.road(2, 4, 5, 0, 1);
        }
        t.road(2, 0, 1, 0, 7);
        t.driver(0, 1);
        Due.is("none", t.harms(), 0);
        t.toll(9, 2);
        Due.is("the first", t.harms(), 1);
        SelfishTown last = new SelfishTown();
        last.road(2, 0, 1, 0, 7);
        for (int r = 1; r < 9; r++) {
            last.road(2, 4, 5, 0, 1);
        }
        last.road(2, 0, 1, 0, 8);
        last.driver(0, 1);
        last.toll(0, 2);
        Due.is("the last", last.harms(), 512);
        SelfishTown two = new SelfishTown();
        for (int i = 0; i < 2; i++) {
            two.road(2, 2 * i, 2 * i + 1, 0, 8);
            two.road(2, 2 * i, 2 * i + 1, 0, 7);
            two.toll(2 * i + 1, 2);
            two.driver(2 * i, 2 * i + 1);
        }
        Due.is("two at once", two.harms(), 1 + 4);
    }

    /** "if it is OPEN". */
    private static void harmsOnlyIfOpen() {
        SelfishTown t = Towns.harmed(4);
        Due.is("harms()", t.harms(), 16);
        t.open(4, 0);
        Due.is("harms() with it shut", t.harms(), 0);
        t.open(4, 1);
        Due.is("harms() with it open", t.harms(), 16);
    }

    /** "all DRIVERS have WAYS without it". */
    private static void harmsOnlyIfNotNeeded() {
        SelfishTown t = Towns.harmed(4);
        t.driver(1, 2);
        Due.is("one needs it", t.harms(), 0);
        t.road(2, 1, 2, 0, 0);
        t.open(4, 0);
        t.open(5, 0);
        t.open(4, 1);
        Due.is("the other one is shut", t.harms(), 0);
        Due.is("with no driver", Towns.harmed(0).harms(), 0);
        Due.is("the only road", Towns.sideBySide(1, 5).harms(), 0);
    }

    // ---- promise 27

    /** Five drivers on a flat road of 50; the other one takes v with just so many, else 100. */
    private static SelfishTown together(int many, int v) {
        SelfishTown t = new SelfishTown();
        t.road(2, 0, 1, 0, 50);
        t.road(3, 0, 1, 0, 0);
        t.table(1, 0, 5);
        for (int i = 0; i < 5; i++) {
            t.enter(1, i, i == many - 1 ? v : 100);
        }
        for (int d = 0; d < 5; d++) {
            t.driver(0, 1);
            t.choose(d, 0);
        }
        return t;
    }

    /** A HEAP of one .. of all. */
    private static void agreesSoMany() {
        for (int many = 1; many <= 5; many++) {
            int size = many;
            SelfishTown t = together(many, 49);
            Due.is("agrees(), it takes " + many, t.agrees(), (1 << many) - 1);
            Due.is("now(2)", t.now(2), many == 1 ? 0 : 1);
            Still.asBefore("agrees()", () -> together(size, 49), SelfishTown::agrees);
        }
    }

    /** "by which each of it has a lesser COST": as much is not less. "NONE: they are STRONG". */
    private static void agreesLessNotAsMuch() {
        for (int many = 1; many <= 5; many++) {
            Due.is("agrees(), as much", together(many, 50).agrees(), NONE);
            SelfishTown t = together(many, 49);
            t.toll(1, 1);
            Due.is("agrees(), with a toll as much", t.agrees(), NONE);
        }
        Due.is("of nobody", new SelfishTown().agrees(), NONE);
    }

    /** "The least HEAP, as bits": by the number, not by how many they are. */
    private static void agreesLeastHeap() {
        SelfishTown last = Towns.sideBySide(2, 4);
        last.road(2, 2, 3, 0, 5);
        last.road(2, 2, 3, 0, 4);
        last.driver(2, 3);
        for (int d = 0; d < 4; d++) {
            last.choose(d, d % 2);
        }
        last.choose(4, 0);
        Due.is("only the last", last.agrees(), 16);
        last.choose(4, 1);
        Due.is("nobody", last.agrees(), NONE);
        SelfishTown kept = Towns.sideBySide(3, 2);
        kept.choose(0, 2);
        kept.choose(1, 2);
        kept.toll(0, 9);
        kept.toll(1, 1);
        Due.is("as much is not less, with the first still there", kept.agrees(), NONE);
        kept.toll(2, 1);
        Due.is("away from the toll", kept.agrees(), 1);
        SelfishTown both = new SelfishTown();
        both.road(2, 0, 1, 0, 50);
        both.road(3, 0, 1, 0, 0);
        both.table(1, 0, 2);
        both.enter(1, 0, 100);
        both.road(2, 2, 3, 0, 5);
        both.road(2, 2, 3, 0, 4);
        both.driver(0, 1);
        both.driver(0, 1);
        both.driver(2, 3);
        for (int d = 0; d < 3; d++) {
            both.choose(d, 0);
        }
        Due.is("two together, ahead of the third alone", both.agrees(), 3);
    }

    /** "LARGE; NO (also if some DRIVER has none)". */
    private static void agreesRefused() {
        for (int d = 0; d < 5; d++) {
            int without = d;
            Supplier<SelfishTown> make = () -> {
                SelfishTown t = together(1, 0);
                t.choose(without, -1);
                return t;
            };
            Still.refused("agrees(), " + d + " has none", make, SelfishTown::agrees, NO);
        }
        Due.is("no way, and so no choice", withoutWay().agrees(), NO);
        Due.is("LARGE, with choices", Towns.full().agrees(), LARGE);
        Due.is("LARGE ahead of NO", Towns.sideBySide(5, 5).agrees(), LARGE);
    }
}
