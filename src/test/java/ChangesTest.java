/** Promises 33 and 34: what is taken back, and what is counted, by hand. */
public final class ChangesTest {
    private static final int NONE = -1, BAD = -3, NO = -4;

    public static void main(String[] args) {
        latestEight();
        everyChangeIsKept();
        questionsAreNotKept();
        tablesComeBack();
        waysComeBack();
        count();
        Due.end();
    }

    private static void latestEight() {
        SelfishTown t = new SelfishTown();
        t.road(0, 0, 1, 1, 0);
        for (int v = 1; v <= 11; v++) {
            t.toll(0, v);
            Due.is("count(5)", t.count(5), Math.min(8, v + 1));
        }
        for (int i = 1; i <= 8; i++) {
            Due.is("undo() " + i, t.undo(), 8 - i);
            Due.is("about(0, 5)", t.about(0, 5), 11 - i);
        }
        Due.is("undo(): no more", t.undo(), NO);
        Due.is("about(0, 5)", t.about(0, 5), 3);
        t.toll(0, 50);
        Due.is("count(5)", t.count(5), 1);
        Due.is("undo()", t.undo(), 0);
        Due.is("about(0, 5)", t.about(0, 5), 3);
    }

    private static SelfishTown small() {
        SelfishTown t = new SelfishTown();
        t.road(0, 0, 1, 1, 0);
        t.road(2, 0, 1, 0, 3);
        t.driver(0, 1);
        t.choose(0, 0);
        while (t.undo() > 2) {
            // two changes stay kept, so that one more is seen
        }
        t.driver(0, 1);
        t.choose(0, 0);
        return t;
    }

    private static int change(SelfishTown t, int which) {
        switch (which) {
            case 0: return t.road(0, 0, 1, 1, 1);
            case 1: return t.open(0, 1);
            case 2: return t.table(0, 0, 1);
            case 3: return t.table(0, 0, 1) + t.enter(0, 0, 1);
            case 4: return t.table(0, 0, 1) + t.copy(0, 0, 0);
            case 5: return t.toll(0, 0);
            case 6: return t.driver(1, 0);
            case 7: return t.choose(0, 0);
            case 8: return t.best();
            case 9: return t.rest(0);
            case 10: return t.habit(0);
            case 11: return t.better(1);
            case 12: return t.queue();
            default: return t.teach();
        }
    }

    private static void everyChangeIsKept() {
        for (int which = 0; which <= 13; which++) {
            SelfishTown t = small();
            int kept = t.count(5);
            change(t, which);
            int more = which == 3 || which == 4 ? 2 : 1;
            Due.is("count(5) after change " + which, t.count(5), kept + more);
            Due.is("undo() of change " + which, t.undo(), kept + more - 1);
            Due.is("told(0, 0) after undo() of change " + which, t.told(0, 0), 0);
            Due.is("count(0)", t.count(0), 2);
            Due.is("count(1)", t.count(1), 1);
        }
    }

    private static void questionsAreNotKept() {
        SelfishTown t = small();
        int kept = t.count(5);
        t.about(0, 7);
        t.isOf(0, 0);
        t.takes(0, 1);
        t.ways(0);
        t.way(0, 0, 0);
        t.told(0, 1);
        t.now(2);
        t.store();
        t.reply(0);
        t.habits();
        t.rests();
        t.extreme(0);
        t.price(0);
        t.harms();
        t.agrees();
        t.level(0, 1, 1, 0, 0);
        t.share(0, 1, 0, 0);
        t.count(0);
        Due.is("count(5)", t.count(5), kept);
        Due.is("told(0, 0)", t.told(0, 0), 0);
    }

    private static void tablesComeBack() {
        SelfishTown t = new SelfishTown();
        t.road(3, 0, 1, 0, 0);
        t.table(0, 1, 2);
        t.enter(0, 1, 100000);
        t.table(0, 0, 3);
        t.enter(0, 1, 5);
        t.table(0, 0, -1);
        t.undo();
        Due.is("about(0, 8)", t.about(0, 8), 3);
        Due.is("takes(0, 2)", t.takes(0, 2), 5);
        Due.is("bytes again", t.enter(0, 0, 128), BAD);
        t.undo();
        t.undo();
        Due.is("about(0, 8)", t.about(0, 8), 2);
        Due.is("takes(0, 2)", t.takes(0, 2), 100000);
        Due.is("ints again", t.enter(0, 0, 128), 0);
        t.undo();
        t.undo();
        Due.is("takes(0, 2)", t.takes(0, 2), 0);
        t.undo();
        Due.is("about(0, 8)", t.about(0, 8), NONE);
        Due.is("undo()", t.undo(), 0);
        t.road(3, 0, 1, 0, 0);
        Due.is("a new road has no table", t.about(0, 8), NONE);
    }

    private static void waysComeBack() {
        SelfishTown t = new SelfishTown();
        t.road(0, 0, 1, 1, 0);
        t.road(0, 0, 1, 1, 0);
        t.driver(0, 1);
        t.choose(0, 1);
        t.open(0, 0);
        Due.is("ways(0)", t.ways(0), 1);
        t.undo();
        Due.is("ways(0)", t.ways(0), 2);
        Due.is("told(0, 0)", t.told(0, 0), 1);
        Due.is("about(1, 7)", t.about(1, 7), 1);
        t.undo();
        Due.is("told(0, 0)", t.told(0, 0), NONE);
        Due.is("about(1, 7)", t.about(1, 7), 0);
        t.undo();
        Due.is("ways(0): there is no driver", t.ways(0), BAD);
        t.driver(1, 0);
        Due.is("ways(0)", t.ways(0), 0);
    }

    private static void count() {
        SelfishTown t = new SelfishTown();
        t.road(0, 0, 1, 1, 0);
        t.road(0, 0, 1, 1, 0);
        t.road(0, 0, 1, 1, 0);
        t.open(1, 0);
        t.table(2, 1, 4);
        t.driver(0, 1);
        t.driver(0, 1);
        t.choose(1, 1);
        int[] due = {3, 2, 2, 1, 1, 8};
        for (int what = 0; what <= 5; what++) {
            Due.is("count(" + what + ")", t.count(what), due[what]);
        }
        Due.is("count(6)", t.count(6), BAD);
        Due.is("count(-1)", t.count(-1), BAD);
    }
}
