/** Promises 1 to 10: the town and its roads, by hand. */
public final class TownTest {
    private static final int NONE = -1, BAD = -3, NO = -4, FULL = -5, NOTHING = -11, INDEX = -13;

    public static void main(String[] args) {
        newObject();
        road();
        roadsAtMost();
        roadTakesChoices();
        open();
        table();
        enter();
        copy();
        toll();
        about();
        isOf();
        takes();
        Due.end();
    }

    private static void newObject() {
        SelfishTown t = new SelfishTown();
        for (int what = 0; what <= 5; what++) {
            Due.is("new count(" + what + ")", t.count(what), 0);
        }
        Due.is("new undo()", t.undo(), NO);
        Due.is("new about(0, 0)", t.about(0, 0), BAD);
        Due.is("new told(0, 0)", t.told(0, 0), BAD);
        Due.is("new store()", t.store(), 0);
        Due.is("new now(0)", t.now(0), 0);
        Due.is("new now(1)", t.now(1), 0);
        Due.is("new now(2)", t.now(2), 1);
        Due.is("new extreme(0)", t.extreme(0), 0);
        Due.is("new extreme(2)", t.extreme(2), 0);
        Due.is("new rest(0)", t.rest(0), 0);
        Due.is("new rest(1)", t.rest(1), NONE);
        Due.is("new habit(0)", t.habit(0), 0);
        Due.is("new habit(1)", t.habit(1), BAD);
        Due.is("new better(1)", t.better(1), 0);
        Due.is("new teach()", t.teach(), 1);
        Due.is("new level", t.level(0, 1, 1, 0, 0), NO);
    }

    private static void road() {
        SelfishTown t = new SelfishTown();
        int[][] wrong = {
            {-1, 0, 1, 1, 1}, {4, 0, 1, 1, 1}, {0, -1, 1, 1, 1}, {0, 6, 1, 1, 1}, {0, 0, -1, 1, 1}, {0, 0, 6, 1, 1},
            {0, 3, 3, 1, 1}, {0, 0, 1, -1, 1}, {0, 0, 1, 13, 1}, {0, 0, 1, 1, -1}, {0, 0, 1, 1, 1001},
            {Integer.MIN_VALUE, 0, 1, 1, 1}, {0, Integer.MAX_VALUE, 1, 1, 1}};
        for (int[] w : wrong) {
            Due.is("wrong road", t.road(w[0], w[1], w[2], w[3], w[4]), BAD);
        }
        Due.is("count(0) after wrong ones", t.count(0), 0);
        Due.is("count(5) after wrong ones", t.count(5), 0);
        Due.is("road(0, 0, 5, 12, 1000)", t.road(0, 0, 5, 12, 1000), 0);
        Due.is("road(3, 5, 0, 0, 0)", t.road(3, 5, 0, 0, 0), 1);
        Due.is("count(0)", t.count(0), 2);
    }

    private static void roadsAtMost() {
        SelfishTown t = new SelfishTown();
        for (int i = 0; i < 10; i++) {
            Due.is("road " + i, t.road(2, 0, 1, 0, i), i);
        }
        Due.is("road 10", t.road(2, 0, 1, 0, 1), FULL);
        Due.is("a wrong road 10", t.road(2, 0, 0, 0, 1), BAD);
        Due.is("count(0)", t.count(0), 10);
        Due.is("about(9, 4)", t.about(9, 4), 9);
        Due.is("undo()", t.undo(), 7);
        Due.is("road again", t.road(1, 0, 1, 2, 3), 9);
    }

    private static void roadTakesChoices() {
        SelfishTown t = twoRoadsWithDriver();
        t.choose(0, 1);
        Due.is("a refused road", t.road(0, 0, 0, 1, 1), BAD);
        Due.is("told(0, 0) after it", t.told(0, 0), 1);
        t.road(0, 4, 5, 1, 1);
        Due.is("told(0, 0) as a road came", t.told(0, 0), NONE);
        t.undo();
        Due.is("told(0, 0) as it went", t.told(0, 0), 1);
    }

    private static SelfishTown twoRoadsWithDriver() {
        SelfishTown t = new SelfishTown();
        t.road(0, 0, 1, 1, 5);
        t.road(2, 0, 1, 0, 7);
        t.driver(0, 1);
        return t;
    }

    private static void open() {
        SelfishTown t = twoRoadsWithDriver();
        t.choose(0, 1);
        Due.is("open(0, 1)", t.open(0, 1), 1);
        Due.is("told(0, 0) as nothing is otherwise", t.told(0, 0), 1);
        int kept = t.count(5);
        Due.is("open(2, 1)", t.open(2, 1), BAD);
        Due.is("open(-1, 1)", t.open(-1, 1), BAD);
        Due.is("open(0, 2)", t.open(0, 2), BAD);
        Due.is("open(0, -1)", t.open(0, -1), BAD);
        Due.is("count(5) after wrong ones", t.count(5), kept);
        Due.is("open(0, 0)", t.open(0, 0), 1);
        Due.is("about(0, 6)", t.about(0, 6), 0);
        Due.is("told(0, 0) as it is shut", t.told(0, 0), NONE);
        Due.is("ways(0)", t.ways(0), 1);
        Due.is("way(0, 0, 0)", t.way(0, 0, 0), 1);
        Due.is("choose(0, 0)", t.choose(0, 0), NONE);
        Due.is("open(0, 0) again", t.open(0, 0), 0);
        Due.is("told(0, 0) as it was shut before", t.told(0, 0), 0);
        Due.is("open(0, 1) again", t.open(0, 1), 0);
        Due.is("told(0, 0) as it is open", t.told(0, 0), NONE);
        Due.is("ways(0) again", t.ways(0), 2);
    }

    private static void table() {
        SelfishTown t = new SelfishTown();
        t.road(3, 0, 1, 0, 0);
        Due.is("about(0, 8) MISSING", t.about(0, 8), NONE);
        Due.is("table(0, 1, 6)", t.table(0, 1, 6), 6);
        Due.is("about(0, 8)", t.about(0, 8), 6);
        for (int x = 1; x <= 5; x++) {
            Due.is("takes(0, " + x + ")", t.takes(0, x), 0);
        }
        t.enter(0, 5, 77);
        Due.is("table(0, 1, 6) again", t.table(0, 1, 6), 6);
        Due.is("enter(0, 5, 1): all are 0 again", t.enter(0, 5, 1), 0);
        Due.is("table(0, 0, 0)", t.table(0, 0, 0), 0);
        Due.is("about(0, 8) of none", t.about(0, 8), 0);
        Due.is("takes(0, 1) of none", t.takes(0, 1), 1000000);
        Due.is("count(3) of none", t.count(3), 1);
        Due.is("table(0, 1, -1)", t.table(0, 1, -1), -1);
        Due.is("count(3)", t.count(3), 0);
        int kept = t.count(5);
        int[][] wrong = {{1, 0, 1}, {-1, 0, 1}, {0, -1, 1}, {0, 2, 1}, {0, 2, -1}, {0, 0, -2}, {0, 0, 7}};
        for (int[] w : wrong) {
            Due.is("wrong table", t.table(w[0], w[1], w[2]), BAD);
        }
        Due.is("count(5) after wrong ones", t.count(5), kept);
    }

    private static void enter() {
        SelfishTown t = new SelfishTown();
        t.road(3, 0, 1, 0, 0);
        Due.is("no road", t.enter(1, 0, 0), BAD);
        Due.is("no road, nothing else right", t.enter(-1, -1, -1), BAD);
        Due.is("MISSING, place and v wrong", t.enter(0, 9, -9), NOTHING);
        t.table(0, 0, 3);
        Due.is("place 3, v wrong", t.enter(0, 3, -9), INDEX);
        Due.is("place -1", t.enter(0, -1, 0), INDEX);
        Due.is("v -1", t.enter(0, 0, -1), BAD);
        Due.is("v 128 of bytes", t.enter(0, 2, 128), BAD);
        Due.is("count(5) after wrong ones", t.count(5), 2);
        Due.is("v 127 of bytes", t.enter(0, 2, 127), 0);
        Due.is("v 4", t.enter(0, 2, 4), 127);
        Due.is("takes(0, 3)", t.takes(0, 3), 4);
        t.table(0, 1, 1);
        Due.is("v 128 of ints", t.enter(0, 0, 128), 0);
        Due.is("v 100000 of ints", t.enter(0, 0, 100000), 128);
        Due.is("v 100001 of ints", t.enter(0, 0, 100001), BAD);
        Due.is("takes(0, 1)", t.takes(0, 1), 100000);
        t.table(0, 1, 0);
        Due.is("no places", t.enter(0, 0, 0), INDEX);
    }

    private static void copy() {
        SelfishTown t = new SelfishTown();
        t.road(3, 0, 1, 0, 0);
        t.road(3, 1, 2, 0, 0);
        t.table(0, 1, 4);
        for (int i = 0; i < 4; i++) {
            t.enter(0, i, 10 + i);
        }
        Due.is("no road from", t.copy(2, 0, 0), BAD);
        Due.is("no road to", t.copy(0, -1, 0), BAD);
        Due.is("to MISSING, many wrong", t.copy(0, 1, 99), NOTHING);
        Due.is("from MISSING", t.copy(1, 0, 0), NOTHING);
        t.table(1, 0, 2);
        Due.is("ints to bytes, many wrong", t.copy(0, 1, 99), NO);
        Due.is("bytes to ints, none at all", t.copy(1, 0, 0), NO);
        t.table(1, 1, 2);
        int kept = t.count(5);
        Due.is("more than to has", t.copy(0, 1, 3), INDEX);
        Due.is("more than from has", t.copy(1, 0, 3), INDEX);
        Due.is("many -1", t.copy(0, 1, -1), INDEX);
        Due.is("count(5) after wrong ones", t.count(5), kept);
        Due.is("copy(0, 1, 1)", t.copy(0, 1, 1), 1);
        Due.is("takes(1, 1)", t.takes(1, 1), 10);
        Due.is("takes(1, 2): not copied", t.takes(1, 2), 0);
        Due.is("copy(0, 1, 0)", t.copy(0, 1, 0), 0);
        Due.is("copy(0, 1, 2)", t.copy(0, 1, 2), 2);
        Due.is("takes(1, 2)", t.takes(1, 2), 11);
        Due.is("takes(1, 3)", t.takes(1, 3), 1000000);
        t.enter(1, 0, 55);
        Due.is("takes(0, 1): tables stay apart", t.takes(0, 1), 10);
        Due.is("copy(0, 0, 4): itself", t.copy(0, 0, 4), 4);
        Due.is("takes(0, 4)", t.takes(0, 4), 13);
    }

    private static void toll() {
        SelfishTown t = twoRoadsWithDriver();
        Due.is("toll(0, 100000)", t.toll(0, 100000), 0);
        Due.is("toll(0, 3)", t.toll(0, 3), 100000);
        Due.is("about(0, 5)", t.about(0, 5), 3);
        int kept = t.count(5);
        Due.is("toll(0, -1)", t.toll(0, -1), BAD);
        Due.is("toll(0, 100001)", t.toll(0, 100001), BAD);
        Due.is("toll(2, 1)", t.toll(2, 1), BAD);
        Due.is("toll(-1, 1)", t.toll(-1, 1), BAD);
        Due.is("count(5) after wrong ones", t.count(5), kept);
        t.choose(0, 0);
        t.toll(0, 9);
        Due.is("told(0, 0): a toll takes no choice", t.told(0, 0), 0);
        Due.is("told(0, 1)", t.told(0, 1), 6);
        Due.is("told(0, 2)", t.told(0, 2), 15);
    }

    private static void about() {
        SelfishTown t = new SelfishTown();
        t.road(1, 4, 2, 7, 900);
        t.driver(4, 2);
        t.driver(4, 2);
        t.choose(1, 0);
        t.toll(0, 42);
        t.table(0, 0, 5);
        int[] due = {1, 4, 2, 7, 900, 42, 1, 1, 5};
        for (int what = 0; what <= 8; what++) {
            Due.is("about(0, " + what + ")", t.about(0, what), due[what]);
        }
        Due.is("about(0, 9)", t.about(0, 9), BAD);
        Due.is("about(0, -1)", t.about(0, -1), BAD);
        Due.is("about(1, 0)", t.about(1, 0), BAD);
        Due.is("about(-1, 7)", t.about(-1, 7), BAD);
        t.choose(0, 0);
        Due.is("USE of two", t.about(0, 7), 2);
        t.choose(0, -1);
        t.choose(1, -1);
        Due.is("USE of none", t.about(0, 7), 0);
    }

    private static void isOf() {
        SelfishTown t = new SelfishTown();
        int[][] due = {{1, 0, 0, 0}, {1, 1, 0, 0}, {1, 1, 1, 0}, {1, 0, 0, 1}};
        for (int kind = 0; kind <= 3; kind++) {
            t.road(kind, 0, 1, 1, 1);
            for (int of = 0; of <= 3; of++) {
                Due.is("isOf of kind " + kind + ", " + of, t.isOf(kind, of), due[kind][of]);
            }
        }
        Due.is("isOf(0, 4)", t.isOf(0, 4), BAD);
        Due.is("isOf(0, -1)", t.isOf(0, -1), BAD);
        Due.is("isOf(4, 0)", t.isOf(4, 0), BAD);
        Due.is("isOf(-1, 0)", t.isOf(-1, 0), BAD);
    }

    private static void takes() {
        SelfishTown t = new SelfishTown();
        for (int kind = 0; kind <= 3; kind++) {
            t.road(kind, 0, 1, 12, 1000);
        }
        t.table(3, 0, 2);
        t.enter(3, 1, 6);
        t.table(0, 0, 2);
        int[][] due = {{1012, 1024, 1060}, {1012, 1048, 1300}, {1000, 1000, 1000}, {0, 6, 1000000}};
        for (int kind = 0; kind <= 3; kind++) {
            Due.is("takes(" + kind + ", 1)", t.takes(kind, 1), due[kind][0]);
            Due.is("takes(" + kind + ", 2)", t.takes(kind, 2), due[kind][1]);
            Due.is("takes(" + kind + ", 5)", t.takes(kind, 5), due[kind][2]);
            Due.is("takes(" + kind + ", 0)", t.takes(kind, 0), BAD);
            Due.is("takes(" + kind + ", 6)", t.takes(kind, 6), BAD);
        }
        Due.is("takes(4, 1)", t.takes(4, 1), BAD);
        Due.is("takes(-1, 1)", t.takes(-1, 1), BAD);
    }
}
