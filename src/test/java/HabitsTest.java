/** Promises 19 to 27: habits, rests, what they are worth and who agrees against them, by hand. */
public final class HabitsTest {
    private static final int NONE = -1, BAD = -3, NO = -4, LARGE = -6;

    public static void main(String[] args) {
        habits();
        habitsInOrder();
        refusals();
        best();
        rests();
        restNone();
        extreme();
        price();
        priceOfNothing();
        harms();
        harmsOnlyIfAllCanDoWithout();
        agreesAlone();
        agreesTogether();
        agreesRefused();
        Due.end();
    }

    /** Roads side by side from 0 to 1 that take x each, and so many drivers. */
    private static SelfishTown sideBySide(int roads, int drivers) {
        SelfishTown t = new SelfishTown();
        for (int r = 0; r < roads; r++) {
            t.road(0, 0, 1, 1, 0);
        }
        for (int d = 0; d < drivers; d++) {
            t.driver(0, 1);
        }
        return t;
    }

    private static SelfishTown braess(int drivers) {
        SelfishTown t = new SelfishTown();
        t.road(0, 0, 1, 10, 0);
        t.road(2, 0, 2, 0, 50);
        t.road(2, 1, 3, 0, 50);
        t.road(0, 2, 3, 10, 0);
        t.road(2, 1, 2, 0, 0);
        for (int d = 0; d < drivers; d++) {
            t.driver(0, 3);
        }
        return t;
    }

    private static void habits() {
        Due.is("3 by 5", sideBySide(3, 5).habits(), 243);
        Due.is("4 by 5", sideBySide(4, 5).habits(), 1024);
        Due.is("5 by 5", sideBySide(5, 5).habits(), LARGE);
        Due.is("10 by 3", sideBySide(10, 3).habits(), 1000);
        Due.is("no road", sideBySide(0, 1).habits(), NO);
        SelfishTown t = new SelfishTown();
        // 10 roads: 4 on 0 to 1, 5 on 2 to 3, so that 4 * 4 * 5 * 5 * 5 are just 2000
        for (int r = 0; r < 9; r++) {
            t.road(2, r < 4 ? 0 : 2, r < 4 ? 1 : 3, 0, 1);
        }
        for (int d = 0; d < 5; d++) {
            t.driver(d < 2 ? 0 : 2, d < 2 ? 1 : 3);
        }
        Due.is("just 2000", t.habits(), 2000);
        Due.is("all of them rest", t.rests(), 2000);
        Due.is("the last", t.rest(1999), 5);
        Due.is("told(0, 0)", t.told(0, 0), 3);
        Due.is("told(4, 0)", t.told(4, 0), 4);
        Due.is("no more", t.rest(2000), NONE);
        t.road(2, 0, 1, 0, 1);
        Due.is("2500 and 5 * 5 * 5 * 5 * 5", t.habits(), LARGE);
        SelfishTown u = sideBySide(10, 4);
        u.driver(1, 0);
        Due.is("none at all are not more than 2000", u.habits(), NO);
    }

    private static void habitsInOrder() {
        SelfishTown t = new SelfishTown();
        t.road(2, 0, 1, 0, 1);
        t.road(2, 0, 1, 0, 2);
        t.road(2, 2, 3, 0, 1);
        t.road(2, 2, 3, 0, 2);
        t.road(2, 2, 3, 0, 3);
        t.driver(0, 1);
        t.driver(2, 3);
        t.driver(0, 1);
        Due.is("habits()", t.habits(), 12);
        for (int k = 0; k < 12; k++) {
            Due.is("habit(" + k + ")", t.habit(k), 0);
            Due.is("told(0, 0) of " + k, t.told(0, 0), k / 6);
            Due.is("told(1, 0) of " + k, t.told(1, 0), k / 2 % 3);
            Due.is("told(2, 0) of " + k, t.told(2, 0), k % 2);
        }
        int kept = t.count(5);
        Due.is("habit(12)", t.habit(12), BAD);
        Due.is("habit(-1)", t.habit(-1), BAD);
        Due.is("count(5) after wrong ones", t.count(5), kept);
        Due.is("undo()", t.undo(), 7);
        Due.is("told(2, 0) undone", t.told(2, 0), 0);
    }

    private static void refusals() {
        refusal(sideBySide(5, 5), LARGE);
        refusal(sideBySide(0, 2), NO);
    }

    /** What can't be gone through is told ahead of a wrong number. */
    private static void refusal(SelfishTown t, int due) {
        int kept = t.count(5);
        Due.is("habits()", t.habits(), due);
        Due.is("habit(0)", t.habit(0), due);
        Due.is("habit(-1)", t.habit(-1), due);
        Due.is("best()", t.best(), due);
        Due.is("rests()", t.rests(), due);
        Due.is("rest(0)", t.rest(0), due);
        Due.is("rest(-1)", t.rest(-1), due);
        Due.is("extreme(0)", t.extreme(0), due);
        Due.is("extreme(3)", t.extreme(3), due);
        Due.is("price(0)", t.price(0), due);
        Due.is("price(2)", t.price(2), due);
        Due.is("harms()", t.harms(), due);
        Due.is("agrees()", t.agrees(), due);
        Due.is("teach()", t.teach(), due);
        Due.is("count(5)", t.count(5), kept);
        Due.is("count(4)", t.count(4), 0);
    }

    private static void best() {
        SelfishTown t = braess(4);
        Due.is("best()", t.best(), 280);
        int[] first = {0, 0, 1, 2};
        for (int d = 0; d < 4; d++) {
            Due.is("told(" + d + ", 0): the first of several", t.told(d, 0), first[d]);
        }
        t.toll(0, 100000);
        Due.is("best(): tolls are not time", t.best(), 280);
        Due.is("now(0)", t.now(0), 280);
        t.choose(0, -1);
        Due.is("best() again", t.best(), 280);
        Due.is("undo()", t.undo(), 7);
        Due.is("told(0, 0) undone", t.told(0, 0), NONE);
    }

    private static void rests() {
        SelfishTown t = sideBySide(2, 2);
        Due.is("rests()", t.rests(), 2);
        Due.is("rest(1)", t.rest(1), 2);
        Due.is("told(0, 0)", t.told(0, 0), 1);
        Due.is("told(1, 0)", t.told(1, 0), 0);
        Due.is("rest(0)", t.rest(0), 2);
        Due.is("told(0, 0)", t.told(0, 0), 0);
        Due.is("told(1, 0)", t.told(1, 0), 1);
        t.toll(0, 1);
        Due.is("rests(): as much is not less", t.rests(), 3);
        Due.is("rest(2): both on 1", t.rest(2), 4);
        t.toll(0, 2);
        Due.is("rests() with a toll", t.rests(), 1);
        Due.is("undo()", t.undo(), 7);
    }

    private static void restNone() {
        SelfishTown t = sideBySide(2, 2);
        t.choose(0, 1);
        int kept = t.count(5);
        Due.is("rest(-1)", t.rest(-1), BAD);
        Due.is("rest(MIN)", t.rest(Integer.MIN_VALUE), BAD);
        Due.is("count(5) after BAD", t.count(5), kept);
        Due.is("rest(2)", t.rest(2), NONE);
        Due.is("rest(MAX)", t.rest(Integer.MAX_VALUE), NONE);
        Due.is("told(0, 0)", t.told(0, 0), 1);
        Due.is("told(1, 0)", t.told(1, 0), NONE);
        Due.is("count(5): NONE is no refusal", t.count(5), kept + 2);
    }

    private static void extreme() {
        SelfishTown t = sideBySide(2, 2);
        t.toll(0, 1);
        Due.is("extreme(0)", t.extreme(0), 2);
        Due.is("extreme(1)", t.extreme(1), 4);
        Due.is("extreme(2)", t.extreme(2), 1);
        Due.is("extreme(3)", t.extreme(3), BAD);
        Due.is("extreme(-1)", t.extreme(-1), BAD);
        Due.is("count(4): it changes nothing", t.count(4), 0);
        SelfishTown b = braess(4);
        Due.is("least MOST, of a habit that does not rest", b.extreme(2), 70);
        Due.is("extreme(0)", b.extreme(0), 320);
    }

    private static void price() {
        SelfishTown t = braess(4);
        Due.is("price(0)", t.price(0), 8);
        Due.is("price(1)", t.price(1), 7);
        Due.is("price(2)", t.price(2), BAD);
        Due.is("price(-1)", t.price(-1), BAD);
        SelfishTown u = sideBySide(2, 2);
        u.toll(0, 1);
        Due.is("of the greatest rest", u.price(0), 2);
        Due.is("below", u.price(1), 1);
    }

    private static void priceOfNothing() {
        SelfishTown t = new SelfishTown();
        t.road(2, 0, 1, 0, 0);
        t.road(2, 0, 1, 0, 5);
        t.driver(0, 1);
        Due.is("0 by 0, above", t.price(0), 1);
        Due.is("0 by 0, below", t.price(1), 1);
        t.toll(0, 6);
        Due.is("5 by 0, above", t.price(0), NONE);
        Due.is("5 by 0, below", t.price(1), NONE);
        Due.is("5 by 0, wrong part", t.price(2), BAD);
    }

    private static void harms() {
        SelfishTown t = braess(4);
        Due.is("harms()", t.harms(), 16);
        Due.is("about(4, 6): it stays open", t.about(4, 6), 1);
        Due.is("count(5): no change", t.count(5), 8);
        t.rest(0);
        Due.is("harms()", t.harms(), 16);
        Due.is("told(0, 0): nor of choices", t.told(0, 0), 1);
        Due.is("ways(0)", t.ways(0), 3);
        t.open(4, 0);
        Due.is("harms() with it shut", t.harms(), 0);
        t.open(4, 1);
        t.toll(4, 60);
        Due.is("harms() with a toll that keeps all away", t.harms(), 0);
    }

    private static void harmsOnlyIfAllCanDoWithout() {
        SelfishTown t = braess(4);
        t.driver(1, 2);
        Due.is("harms(): one has no other way", t.harms(), 0);
        SelfishTown u = new SelfishTown();
        u.road(2, 0, 1, 0, 9);
        u.road(2, 0, 1, 0, 5);
        u.driver(0, 1);
        Due.is("a road that nobody takes harms nobody", u.harms(), 0);
        u.toll(1, 50);
        Due.is("a toll makes the other road harm", u.harms(), 1);
    }

    private static void agreesAlone() {
        SelfishTown t = sideBySide(2, 3);
        for (int d = 0; d < 3; d++) {
            t.choose(d, 0);
        }
        Due.is("each gains alone: the least", t.agrees(), 1);
        t.choose(0, 1);
        Due.is("at rest", t.agrees(), NONE);
        t.toll(1, 5);
        Due.is("away from the toll", t.agrees(), 1);
        t.choose(0, 0);
        t.choose(2, 1);
        Due.is("only the last", t.agrees(), 4);
        Due.is("told(2, 0): nobody goes", t.told(2, 0), 1);
    }

    private static void agreesTogether() {
        SelfishTown four = braess(4);
        four.rest(0);
        // two who part leave 3 on each road, and 30 + 50 is not less than 80; two and two have 70 each
        Due.is("told(0, 2)", four.told(0, 2), 80);
        Due.is("now(2)", four.now(2), 1);
        Due.is("agrees(): it takes all", four.agrees(), 15);
        Due.is("told(0, 0): nobody goes", four.told(0, 0), 1);
        Due.is("undo()", four.undo(), 7);
        SelfishTown swap = new SelfishTown();
        // the first road is cheap for two and dear for one
        swap.road(3, 0, 1, 0, 0);
        swap.road(3, 0, 1, 0, 0);
        swap.road(2, 2, 0, 0, 0);
        swap.table(0, 0, 2);
        swap.table(1, 0, 2);
        swap.enter(0, 0, 9);
        swap.enter(0, 1, 2);
        swap.enter(1, 0, 5);
        swap.enter(1, 1, 5);
        swap.driver(0, 1);
        swap.driver(2, 1);
        swap.choose(0, 1);
        swap.choose(1, 1);
        Due.is("now(2): alone nobody gains", swap.now(2), 1);
        Due.is("agrees(): both gain", swap.agrees(), 3);
        Due.is("rests()", swap.rests(), 2);
    }

    private static void agreesRefused() {
        SelfishTown t = sideBySide(2, 2);
        t.choose(0, 0);
        Due.is("one has no choice", t.agrees(), NO);
        SelfishTown u = sideBySide(5, 5);
        Due.is("LARGE ahead of no choice", u.agrees(), LARGE);
        for (int d = 0; d < 5; d++) {
            u.choose(d, d);
        }
        Due.is("LARGE with choices", u.agrees(), LARGE);
    }
}
