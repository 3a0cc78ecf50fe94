import java.util.function.Supplier;

/** The boundary cases of Terms 1 and of promises 1 to 10, a test for each sentence that names one. */
public final class EdgesOfTownTest {
    private static final int NONE = -1, BAD = -3, NO = -4, FULL = -5, NOTHING = -11, INDEX = -13;
    private static final int MISSING_TIME = 1000000;

    public static void main(String[] args) {
        newObjectHasNoRoad();
        newObjectHasNoDriver();
        newObjectHasOneHabit();
        roadKinds();
        roadPlaces();
        roadToItsOwnPlace();
        roadNumbersAAndB();
        roadIsFull();
        roadBadAheadOfFull();
        roadAsItComes();
        roadThatWasUndoneLeavesNothing();
        open();
        openRefused();
        tableSizes();
        tableIsAllZero();
        tableIsMissing();
        tableRefused();
        enterPlaces();
        enterValues();
        enterOfMissing();
        enterInOrder();
        copySizes();
        copyOnlySoMany();
        copyOfMissing();
        copyOfOtherKind();
        copyInOrder();
        toll();
        about();
        aboutUse();
        aboutRefused();
        isOf();
        isOfRefused();
        takesLeastAndMost();
        takesToldPlaces();
        takesRefused();
        Due.end();
    }

    // ---- promise 1

    /** "No ROADS". */
    private static void newObjectHasNoRoad() {
        Supplier<SelfishTown> none = SelfishTown::new;
        for (int r = -1; r <= 10; r++) {
            int road = r;
            Due.is("new about", new SelfishTown().about(road, 0), BAD);
            Due.is("new isOf", new SelfishTown().isOf(road, 0), BAD);
            Due.is("new takes", new SelfishTown().takes(road, 1), BAD);
            Due.is("new share", new SelfishTown().share(road, 1, 0, 0), BAD);
            Still.refused("new open(" + r + ", 1)", none, t -> t.open(road, 1), BAD);
            Still.refused("new table(" + r + ", 0, 0)", none, t -> t.table(road, 0, 0), BAD);
            Still.refused("new enter(" + r + ", 0, 0)", none, t -> t.enter(road, 0, 0), BAD);
            Still.refused("new copy(" + r + ", " + r + ", 0)", none, t -> t.copy(road, road, 0), BAD);
            Still.refused("new toll(" + r + ", 0)", none, t -> t.toll(road, 0), BAD);
        }
        for (int from = 0; from < 6; from++) {
            for (int to = 0; to < 6; to++) {
                Due.is("new level", new SelfishTown().level(from, to, 1, 0, 0), from == to ? BAD : NO);
            }
        }
    }

    /** "no DRIVERS". */
    private static void newObjectHasNoDriver() {
        Supplier<SelfishTown> none = SelfishTown::new;
        for (int d = -1; d <= 5; d++) {
            int driver = d;
            Due.is("new ways", new SelfishTown().ways(driver), BAD);
            Due.is("new way", new SelfishTown().way(driver, 0, 0), BAD);
            Due.is("new told", new SelfishTown().told(driver, 0), BAD);
            Due.is("new reply", new SelfishTown().reply(driver), BAD);
            Still.refused("new choose(" + d + ", -1)", none, t -> t.choose(driver, -1), BAD);
            Still.refused("new choose(" + d + ", 0)", none, t -> t.choose(driver, 0), BAD);
        }
        for (int what = 0; what <= 5; what++) {
            Due.is("new count(" + what + ")", new SelfishTown().count(what), 0);
        }
        Still.refused("new undo()", none, SelfishTown::undo, NO);
    }

    /** Where there is no driver none is without a CHOICE: one HABIT, of nobody, and it rests. */
    private static void newObjectHasOneHabit() {
        int[] now = {0, 0, 1};
        for (int what = 0; what <= 2; what++) {
            Due.is("new now(" + what + ")", new SelfishTown().now(what), now[what]);
            Due.is("new extreme(" + what + ")", new SelfishTown().extreme(what), 0);
        }
        Due.is("new store()", new SelfishTown().store(), 0);
        Due.is("new habits()", new SelfishTown().habits(), 1);
        Due.is("new habit(0)", new SelfishTown().habit(0), 0);
        Due.is("new habit(1)", new SelfishTown().habit(1), BAD);
        Due.is("new best()", new SelfishTown().best(), 0);
        Due.is("new rests()", new SelfishTown().rests(), 1);
        Due.is("new rest(0)", new SelfishTown().rest(0), 0);
        Due.is("new rest(1)", new SelfishTown().rest(1), NONE);
        Due.is("new price(0)", new SelfishTown().price(0), 1);
        Due.is("new price(1)", new SelfishTown().price(1), 1);
        Due.is("new harms()", new SelfishTown().harms(), 0);
        Due.is("new agrees()", new SelfishTown().agrees(), NONE);
        Due.is("new better(1)", new SelfishTown().better(1), 0);
        Due.is("new better(200)", new SelfishTown().better(200), 0);
        Due.is("new queue()", new SelfishTown().queue(), 0);
        Due.is("new teach()", new SelfishTown().teach(), 1);
    }

    // ---- promise 2

    private static void roadRefused(int kind, int from, int to, int a, int b, int due) {
        String call = "road(" + kind + ", " + from + ", " + to + ", " + a + ", " + b + ")";
        Still.refused(call, due == FULL ? Towns::full : Towns::lively, t -> t.road(kind, from, to, a, b), due);
    }

    /** "KIND 0 .. 3", "BAD: kind". */
    private static void roadKinds() {
        SelfishTown t = new SelfishTown();
        for (int kind = 0; kind <= 3; kind++) {
            Due.is("road of kind " + kind, t.road(kind, 0, 1, 1, 1), kind);
            Due.is("its kind", t.about(kind, 0), kind);
        }
        for (int kind : Towns.outside(0, 3)) {
            roadRefused(kind, 0, 1, 1, 1, BAD);
        }
    }

    /** "PLACES 0 .. 5", "BAD: places". */
    private static void roadPlaces() {
        for (int from = 0; from <= 5; from++) {
            for (int to = 0; to <= 5; to++) {
                SelfishTown t = new SelfishTown();
                Due.is("road from " + from + " to " + to, t.road(0, from, to, 1, 1), from == to ? BAD : 0);
                Due.is("its from", t.about(0, 1), from == to ? BAD : from);
                Due.is("its to", t.about(0, 2), from == to ? BAD : to);
            }
        }
        for (int place : Towns.outside(0, 5)) {
            roadRefused(0, place, 1, 1, 1, BAD);
            roadRefused(0, 1, place, 1, 1, BAD);
        }
    }

    /** "go one way from a PLACE to another one", "or the same". */
    private static void roadToItsOwnPlace() {
        for (int place = -1; place <= 6; place++) {
            roadRefused(0, place, place, 1, 1, BAD);
        }
    }

    /** "numbers a (0 .. 12) and b (0 .. 1000)", "BAD: a, b". */
    private static void roadNumbersAAndB() {
        SelfishTown t = new SelfishTown();
        int[][] edges = {{0, 0}, {0, 1000}, {12, 0}, {12, 1000}};
        for (int i = 0; i < edges.length; i++) {
            Due.is("road at an edge", t.road(i, 0, 1, edges[i][0], edges[i][1]), i);
            Due.is("its a", t.about(i, 3), edges[i][0]);
            Due.is("its b", t.about(i, 4), edges[i][1]);
        }
        for (int kind = 0; kind <= 3; kind++) {
            for (int a : Towns.outside(0, 12)) {
                roadRefused(kind, 0, 1, a, 1, BAD);
            }
            for (int b : Towns.outside(0, 1000)) {
                roadRefused(kind, 0, 1, 1, b, BAD);
            }
        }
    }

    /** "ROADS, 10 at most, numbered from 0 as they come", "FULL". */
    private static void roadIsFull() {
        SelfishTown t = new SelfishTown();
        for (int i = 0; i < 10; i++) {
            Due.is("road " + i, t.road(2, 0, 1, 0, i), i);
            Due.is("count(0)", t.count(0), i + 1);
        }
        Due.is("the eleventh", t.road(2, 0, 1, 0, 1), FULL);
        Due.is("count(0)", t.count(0), 10);
        roadRefused(0, 0, 1, 1, 1, FULL);
        roadRefused(3, 5, 4, 12, 1000, FULL);
        SelfishTown shut = Towns.full();
        shut.open(0, 0);
        Due.is("a shut road has its place still", shut.road(0, 0, 1, 1, 1), FULL);
        SelfishTown undone = Towns.sideBySide(10, 0);
        Due.is("undo() of the tenth", undone.undo(), 7);
        Due.is("its number again", undone.road(0, 0, 1, 1, 1), 9);
    }

    /** "of several the one that stands first": BAD ahead of FULL. */
    private static void roadBadAheadOfFull() {
        int[][] wrong = {{4, 0, 1, 1, 1}, {0, 6, 1, 1, 1}, {0, 0, 6, 1, 1}, {0, 2, 2, 1, 1}, {0, 0, 1, 13, 1}, {0, 0, 1, 1, 1001}};
        for (int[] w : wrong) {
            Still.refused("a wrong eleventh road", Towns::full, t -> t.road(w[0], w[1], w[2], w[3], w[4]), BAD);
        }
    }

    /** "a TOLL (.. 0 at first), is OPEN (at first) .. TABLE .. MISSING at first"; and nobody is on it. */
    private static void roadAsItComes() {
        SelfishTown t = Towns.lively();
        t.road(3, 4, 5, 7, 8);
        int[] due = {3, 4, 5, 7, 8, 0, 1, 0, NONE};
        for (int what = 0; what <= 8; what++) {
            Due.is("about(4, " + what + ") as it comes", t.about(4, what), due[what]);
        }
    }

    /** "ROADS, TABLES .. are as they were": a number that is given again begins anew. */
    private static void roadThatWasUndoneLeavesNothing() {
        SelfishTown t = new SelfishTown();
        t.road(3, 0, 1, 7, 8);
        t.toll(0, 9);
        t.table(0, 1, 6);
        t.enter(0, 0, 100000);
        t.open(0, 0);
        for (int i = 4; i >= 0; i--) {
            Due.is("undo()", t.undo(), i);
        }
        t.road(3, 1, 2, 0, 0);
        int[] due = {3, 1, 2, 0, 0, 0, 1, 0, NONE};
        for (int what = 0; what <= 8; what++) {
            Due.is("about(0, " + what + ") of the new one", t.about(0, what), due[what]);
        }
        t.table(0, 1, 1);
        Due.is("its table is all 0", t.enter(0, 0, 1), 0);
    }

    // ---- promise 3

    /** "OPEN (1) or SHUT (0): what it was". */
    private static void open() {
        SelfishTown t = Towns.full();
        for (int r = 0; r < 10; r += 9) {
            Due.is("open as it is open", t.open(r, 1), 1);
            Due.is("shut as it is open", t.open(r, 0), 1);
            Due.is("about 6", t.about(r, 6), 0);
            Due.is("shut as it is shut", t.open(r, 0), 0);
            Due.is("open as it is shut", t.open(r, 1), 0);
            Due.is("about 6", t.about(r, 6), 1);
        }
    }

    private static void openRefused() {
        for (int on : Towns.outside(0, 1)) {
            Still.refused("open(0, " + on + ")", Towns::lively, t -> t.open(0, on), BAD);
            Still.refused("open(3, " + on + "), it is shut", Towns::lively, t -> t.open(3, on), BAD);
        }
        for (int road : Towns.outside(0, 3)) {
            Still.refused("open(" + road + ", 0)", Towns::lively, t -> t.open(road, 0), BAD);
            Still.refused("open(" + road + ", 1)", Towns::lively, t -> t.open(road, 1), BAD);
        }
        Still.refused("open(10, 0)", Towns::full, t -> t.open(10, 0), BAD);
    }

    // ---- promise 4

    /** "with n places (0 .. 6)": n. */
    private static void tableSizes() {
        for (int wide = 0; wide <= 1; wide++) {
            for (int n = 0; n <= 6; n++) {
                SelfishTown t = Towns.calm();
                Due.is("table(1, " + wide + ", " + n + ")", t.table(1, wide, n), n);
                Due.is("about(1, 8)", t.about(1, 8), n);
                Due.is("about(0, 8): of the other", t.about(0, 8), NONE);
                Due.is("count(3)", t.count(3), 1);
            }
        }
    }

    /** "all 0": also where there was a TABLE, of either kind. */
    private static void tableIsAllZero() {
        for (int wide = 0; wide <= 1; wide++) {
            SelfishTown t = Towns.calm();
            t.table(0, 1, 6);
            for (int i = 0; i < 6; i++) {
                t.enter(0, i, 100 + i);
            }
            t.table(0, wide, 6);
            for (int i = 0; i < 6; i++) {
                Due.is("place " + i + " of a new table", t.enter(0, i, 1), 0);
            }
            t.table(0, wide, 2);
            t.table(0, wide, 6);
            for (int i = 0; i < 6; i++) {
                Due.is("place " + i + " of a newer table", t.enter(0, i, 1), 0);
            }
        }
    }

    /** "or (n = -1) MISSING: n". */
    private static void tableIsMissing() {
        for (int wide = 0; wide <= 1; wide++) {
            SelfishTown t = Towns.lively();
            Due.is("table(2, " + wide + ", -1)", t.table(2, wide, -1), -1);
            Due.is("about(2, 8)", t.about(2, 8), NONE);
            Due.is("takes(2, 1)", t.takes(2, 1), MISSING_TIME);
            Due.is("enter(2, 0, 0)", t.enter(2, 0, 0), NOTHING);
            Due.is("count(3)", t.count(3), 1);
            Due.is("again", t.table(2, wide, -1), -1);
            Due.is("a table again", t.table(2, wide, 2), 2);
            Due.is("all 0", t.enter(2, 1, 5), 0);
        }
    }

    private static void tableRefused() {
        for (int n : Towns.outside(-1, 6)) {
            Still.refused("table(0, 0, " + n + ")", Towns::lively, t -> t.table(0, 0, n), BAD);
            Still.refused("table(2, 1, " + n + ")", Towns::lively, t -> t.table(2, 1, n), BAD);
        }
        for (int wide : Towns.outside(0, 1)) {
            Still.refused("table(0, " + wide + ", 6)", Towns::lively, t -> t.table(0, wide, 6), BAD);
            Still.refused("table(0, " + wide + ", 0)", Towns::lively, t -> t.table(0, wide, 0), BAD);
        }
        for (int road : Towns.outside(0, 3)) {
            Still.refused("table(" + road + ", 0, 1)", Towns::lively, t -> t.table(road, 0, 1), BAD);
            Still.refused("table(" + road + ", 0, -1)", Towns::lively, t -> t.table(road, 0, -1), BAD);
        }
        Still.refused("table(10, 0, 1)", Towns::full, t -> t.table(10, 0, 1), BAD);
    }

    // ---- promise 5

    private static SelfishTown withTable(int wide, int n) {
        SelfishTown t = Towns.calm();
        t.table(0, wide, n);
        return t;
    }

    /** "INDEX": a place below 0, or not one of the TABLE's, which may have none. */
    private static void enterPlaces() {
        for (int wide = 0; wide <= 1; wide++) {
            int width = wide;
            for (int n = 0; n <= 6; n++) {
                int size = n;
                SelfishTown t = withTable(wide, n);
                for (int place = 0; place < n; place++) {
                    Due.is("enter at " + place + " of " + n, t.enter(0, place, place + 1), 0);
                }
                for (int place = 0; place < n; place++) {
                    Due.is("what it was", t.enter(0, place, 0), place + 1);
                }
                for (int place : Towns.outside(0, n - 1)) {
                    Still.refused("enter at " + place + " of " + n, () -> withTable(width, size), x -> x.enter(0, place, 0), INDEX);
                }
            }
        }
    }

    /** "bytes (0 .. 127) or ints (0 .. 100000)", "BAD: v is not one of its kind". */
    private static void enterValues() {
        int[] most = {127, 100000};
        for (int wide = 0; wide <= 1; wide++) {
            int width = wide;
            SelfishTown t = withTable(wide, 6);
            Due.is("the greatest", t.enter(0, 5, most[wide]), 0);
            Due.is("the least", t.enter(0, 5, 0), most[wide]);
            Due.is("what it was", t.enter(0, 5, 1), 0);
            for (int v : Towns.outside(0, most[wide])) {
                Still.refused("enter(0, 5, " + v + ")", () -> withTable(width, 6), x -> x.enter(0, 5, v), BAD);
            }
        }
        Due.is("an int that is no byte", withTable(1, 1).enter(0, 0, 128), 0);
        Due.is("255 is no byte", withTable(0, 1).enter(0, 0, 255), BAD);
        Due.is("256 is no byte", withTable(0, 1).enter(0, 0, 256), BAD);
    }

    /** "NOTHING: MISSING", at first or again. */
    private static void enterOfMissing() {
        Still.refused("enter(0, 0, 0) at first", Towns::calm, t -> t.enter(0, 0, 0), NOTHING);
        Still.refused("enter(0, 0, 0) again", () -> withTable(1, -1), t -> t.enter(0, 0, 0), NOTHING);
    }

    /** "BAD: road; NOTHING: MISSING; INDEX; BAD: v": of several the first. */
    private static void enterInOrder() {
        for (int road : Towns.outside(0, 1)) {
            Still.refused("no road " + road, Towns::calm, t -> t.enter(road, -1, -1), BAD);
        }
        Still.refused("MISSING, no place, wrong v", Towns::calm, t -> t.enter(0, -1, -1), NOTHING);
        Still.refused("MISSING, no place", Towns::calm, t -> t.enter(1, 6, 1), NOTHING);
        Still.refused("MISSING, wrong v", Towns::calm, t -> t.enter(1, 0, -1), NOTHING);
        Still.refused("no place, v -1", () -> withTable(0, 3), t -> t.enter(0, 3, -1), INDEX);
        Still.refused("no place -1, v 128", () -> withTable(0, 3), t -> t.enter(0, -1, 128), INDEX);
        Still.refused("no place at all, v too great", () -> withTable(1, 0), t -> t.enter(0, 0, 100001), INDEX);
    }

    // ---- promise 6

    private static SelfishTown withTables(int wide, int n, int otherWide, int m) {
        SelfishTown t = Towns.calm();
        t.table(0, wide, n);
        t.table(1, otherWide, m);
        return t;
    }

    /** "So many places": as many as both have, and no more. */
    private static void copySizes() {
        for (int n = 0; n <= 6; n++) {
            for (int m = 0; m <= 6; m++) {
                int from = n;
                int to = m;
                int most = Math.min(n, m);
                Supplier<SelfishTown> make = () -> withTables(1, from, 1, to);
                Due.is("copy of none, " + n + " to " + m, make.get().copy(0, 1, 0), 0);
                Due.is("copy of all, " + n + " to " + m, make.get().copy(0, 1, most), most);
                Due.is("one more, " + n + " to " + m, make.get().copy(0, 1, most + 1), INDEX);
                for (int many : Towns.outside(0, most)) {
                    Still.refused("copy(0, 1, " + many + "), " + n + " to " + m, make, t -> t.copy(0, 1, many), INDEX);
                }
            }
        }
    }

    /** "from its first on"; the others stay, and those of the first TABLE. "(From a ROAD, to a ROAD.)" */
    private static void copyOnlySoMany() {
        for (int many = 0; many <= 6; many++) {
            SelfishTown t = withTables(0, 6, 0, 6);
            for (int i = 0; i < 6; i++) {
                t.enter(0, i, 10 + i);
                t.enter(1, i, 20 + i);
            }
            Due.is("copy(1, 0, " + many + ")", t.copy(1, 0, many), many);
            for (int i = 0; i < 6; i++) {
                Due.is("to: place " + i, t.enter(0, i, 0), i < many ? 20 + i : 10 + i);
                Due.is("from: place " + i, t.enter(1, i, 0), 20 + i);
            }
        }
    }

    /** "NOTHING: one is MISSING", or both; of a MISSING one it is no matter what it was of. */
    private static void copyOfMissing() {
        Still.refused("both MISSING", Towns::calm, t -> t.copy(0, 1, 0), NOTHING);
        for (int wide = 0; wide <= 1; wide++) {
            int width = wide;
            Still.refused("from MISSING", () -> withTables(width, -1, 1, 3), t -> t.copy(0, 1, 0), NOTHING);
            Still.refused("to MISSING", () -> withTables(1, 3, width, -1), t -> t.copy(0, 1, 0), NOTHING);
        }
    }

    /** "NO: one of bytes, one of ints", even if nothing is copied. */
    private static void copyOfOtherKind() {
        Still.refused("bytes to ints", () -> withTables(0, 2, 1, 2), t -> t.copy(0, 1, 2), NO);
        Still.refused("ints to bytes", () -> withTables(1, 2, 0, 2), t -> t.copy(0, 1, 2), NO);
        Still.refused("none of bytes to ints", () -> withTables(0, 2, 1, 2), t -> t.copy(0, 1, 0), NO);
        Still.refused("empty ones", () -> withTables(1, 0, 0, 0), t -> t.copy(0, 1, 0), NO);
    }

    /** "BAD: roads; NOTHING; NO; INDEX": of several the first. */
    private static void copyInOrder() {
        for (int road : Towns.outside(0, 1)) {
            Still.refused("no road from, MISSING", Towns::calm, t -> t.copy(road, 0, -1), BAD);
            Still.refused("no road to, MISSING", Towns::calm, t -> t.copy(0, road, 7), BAD);
            Still.refused("no road from", () -> withTables(0, 2, 1, 2), t -> t.copy(road, 0, 0), BAD);
            Still.refused("no road to", () -> withTables(0, 2, 1, 2), t -> t.copy(0, road, 0), BAD);
        }
        Still.refused("MISSING, too many", () -> withTables(0, 2, 1, -1), t -> t.copy(0, 1, 7), NOTHING);
        Still.refused("MISSING, below 0", () -> withTables(0, -1, 1, 3), t -> t.copy(0, 1, -1), NOTHING);
        Still.refused("other kind, too many", () -> withTables(0, 2, 1, 2), t -> t.copy(0, 1, 3), NO);
        Still.refused("other kind, below 0", () -> withTables(1, 2, 0, 2), t -> t.copy(0, 1, -1), NO);
    }

    // ---- promise 7

    /** "a TOLL (0 .. 100000, 0 at first)": what it was. */
    private static void toll() {
        SelfishTown t = Towns.full();
        for (int r = 0; r < 10; r += 9) {
            Due.is("the greatest", t.toll(r, 100000), 0);
            Due.is("the least", t.toll(r, 0), 100000);
            Due.is("what it was", t.toll(r, 1), 0);
            Due.is("about 5", t.about(r, 5), 1);
        }
        for (int v : Towns.outside(0, 100000)) {
            Still.refused("toll(1, " + v + ")", Towns::lively, x -> x.toll(1, v), BAD);
        }
        for (int road : Towns.outside(0, 3)) {
            Still.refused("toll(" + road + ", 0)", Towns::lively, x -> x.toll(road, 0), BAD);
        }
        Still.refused("toll(10, 1)", Towns::full, x -> x.toll(10, 1), BAD);
    }

    // ---- promise 8

    /** "8 how many places its TABLE has (NONE: MISSING)", "6 whether it is OPEN". */
    private static void about() {
        SelfishTown t = Towns.lively();
        int[][] due = {{0, 0, 1, 2, 1, 0, 1, 1, 6}, {2, 0, 1, 0, 6, 4, 1, 1, NONE}, {3, 1, 2, 0, 0, 0, 1, 1, 2}, {1, 0, 2, 3, 3, 0, 0, 0, NONE}};
        for (int r = 0; r < 4; r++) {
            for (int what = 0; what <= 8; what++) {
                Due.is("about(" + r + ", " + what + ")", t.about(r, what), due[r][what]);
            }
        }
        t.table(0, 1, 0);
        Due.is("about(0, 8): a table of no places is not MISSING", t.about(0, 8), 0);
    }

    /** "USE of a ROAD: how many DRIVERS have it on their WAY": 0 .. 5. */
    private static void aboutUse() {
        SelfishTown t = Towns.sideBySide(2, 5);
        Due.is("USE of none", t.about(0, 7), 0);
        for (int d = 0; d < 5; d++) {
            t.choose(d, 0);
            Due.is("USE", t.about(0, 7), d + 1);
        }
        Due.is("USE of the other", t.about(1, 7), 0);
        t.open(1, 0);
        Due.is("USE as all have none", t.about(0, 7), 0);
    }

    private static void aboutRefused() {
        for (int what : Towns.outside(0, 8)) {
            Still.refused("about(0, " + what + ")", Towns::lively, t -> t.about(0, what), BAD);
        }
        for (int road : Towns.outside(0, 3)) {
            for (int what = -1; what <= 9; what++) {
                Due.is("about(" + road + ", " + what + ")", Towns.lively().about(road, what), BAD);
            }
        }
        Due.is("about(9, 4)", Towns.full().about(9, 4), 9);
        Due.is("about(10, 4)", Towns.full().about(10, 4), BAD);
    }

    // ---- promise 9

    /** "(All are ROADS; STEEP and TOLD ones nothing else; FLAT ones STEEP, too.)" */
    private static void isOf() {
        int[][] due = {{1, 0, 0, 0}, {1, 1, 0, 0}, {1, 1, 1, 0}, {1, 0, 0, 1}};
        for (int kind = 0; kind <= 3; kind++) {
            SelfishTown t = new SelfishTown();
            t.road(kind, 0, 1, 0, 0);
            for (int of = 0; of <= 3; of++) {
                Due.is("isOf of kind " + kind + ", " + of, t.isOf(0, of), due[kind][of]);
            }
        }
    }

    private static void isOfRefused() {
        for (int kind : Towns.outside(0, 3)) {
            for (int r = 0; r < 4; r++) {
                Due.is("isOf(" + r + ", " + kind + ")", Towns.lively().isOf(r, kind), BAD);
            }
        }
        for (int road : Towns.outside(0, 3)) {
            Due.is("isOf(" + road + ", 0)", Towns.lively().isOf(road, 0), BAD);
        }
    }

    // ---- promise 10

    /** "a * x + b", "a * x * x + b", "b" at the edges of a, b and x. */
    private static void takesLeastAndMost() {
        int[][] due = {{1012, 1060}, {1012, 1300}, {1000, 1000}};
        for (int kind = 0; kind <= 2; kind++) {
            SelfishTown t = new SelfishTown();
            t.road(kind, 0, 1, 12, 1000);
            t.road(kind, 0, 1, 0, 0);
            t.road(kind, 0, 1, 1, 0);
            t.table(0, 0, 6);
            Due.is("takes(0, 1) of kind " + kind, t.takes(0, 1), due[kind][0]);
            Due.is("takes(0, 5) of kind " + kind, t.takes(0, 5), due[kind][1]);
            for (int x = 1; x <= 5; x++) {
                int slow = kind == 0 ? x : kind == 1 ? x * x : 0;
                Due.is("takes(1, " + x + ") of kind " + kind, t.takes(1, x), 0);
                Due.is("takes(2, " + x + ") of kind " + kind, t.takes(2, x), slow);
            }
        }
    }

    /** "place x - 1 of its TABLE; 1000000, if there is no such place, or it is MISSING". */
    private static void takesToldPlaces() {
        for (int n = -1; n <= 6; n++) {
            SelfishTown t = new SelfishTown();
            t.road(3, 0, 1, 12, 1000);
            Due.is("at first", t.takes(0, 1), MISSING_TIME);
            t.table(0, 1, n);
            for (int x = 1; x <= 5; x++) {
                Due.is("takes(0, " + x + ") of " + n, t.takes(0, x), x <= n ? 0 : MISSING_TIME);
            }
            for (int i = 0; i < n; i++) {
                t.enter(0, i, 100000 - i);
            }
            for (int x = 1; x <= 5; x++) {
                Due.is("takes(0, " + x + ") of " + n, t.takes(0, x), x <= n ? 100001 - x : MISSING_TIME);
            }
        }
    }

    /** "with x (1 .. 5) drivers. BAD." */
    private static void takesRefused() {
        for (int x : Towns.outside(1, 5)) {
            for (int r = 0; r < 4; r++) {
                Due.is("takes(" + r + ", " + x + ")", Towns.lively().takes(r, x), BAD);
            }
        }
        for (int road : Towns.outside(0, 3)) {
            Due.is("takes(" + road + ", 1)", Towns.lively().takes(road, 1), BAD);
        }
        Due.is("takes(3, 1) of a shut road", Towns.lively().takes(3, 1), 6);
    }
}
