/** Promises 11 to 18, and 28 to 30: drivers, what they choose and what they do, by hand. */
public final class DriversTest {
    private static final int NONE = -1, BAD = -3, NO = -4, FULL = -5, LARGE = -6;

    public static void main(String[] args) {
        driver();
        waysInOrder();
        waysWithoutReturn();
        choose();
        told();
        now();
        store();
        reply();
        better();
        betterLowersStore();
        queue();
        teach();
        teachWithinLimits();
        Due.end();
    }

    /** Two roads alike between 0 and 1, and so many drivers. */
    private static SelfishTown twins(int drivers) {
        SelfishTown t = new SelfishTown();
        t.road(0, 0, 1, 3, 0);
        t.road(0, 0, 1, 3, 0);
        for (int d = 0; d < drivers; d++) {
            t.driver(0, 1);
        }
        return t;
    }

    private static void driver() {
        SelfishTown t = twins(0);
        int[][] wrong = {{-1, 0}, {6, 0}, {0, -1}, {0, 6}, {2, 2}};
        for (int[] w : wrong) {
            Due.is("wrong driver", t.driver(w[0], w[1]), BAD);
        }
        Due.is("count(5) after wrong ones", t.count(5), 2);
        for (int d = 0; d < 5; d++) {
            Due.is("driver " + d, t.driver(d, 5), d);
            Due.is("told 3", t.told(d, 3), d);
            Due.is("told 4", t.told(d, 4), 5);
        }
        Due.is("driver 5", t.driver(0, 1), FULL);
        Due.is("a wrong driver 5", t.driver(0, 0), BAD);
        Due.is("count(1)", t.count(1), 5);
        SelfishTown u = twins(1);
        u.choose(0, 1);
        u.driver(1, 0);
        Due.is("told(0, 0) as another came", u.told(0, 0), 1);
        Due.is("told(1, 0)", u.told(1, 0), NONE);
    }

    private static void waysInOrder() {
        SelfishTown t = new SelfishTown();
        t.road(2, 2, 3, 0, 1);
        t.road(2, 0, 2, 0, 1);
        t.road(2, 0, 3, 0, 1);
        t.road(2, 0, 1, 0, 1);
        t.road(2, 1, 2, 0, 1);
        t.road(2, 2, 3, 0, 1);
        t.road(2, 1, 3, 0, 1);
        t.driver(0, 3);
        int[][] due = {{1, 0}, {1, 5}, {2}, {3, 4, 0}, {3, 4, 5}, {3, 6}};
        Due.is("ways(0)", t.ways(0), due.length);
        for (int k = 0; k < due.length; k++) {
            for (int i = 0; i < 6; i++) {
                Due.is("way(0, " + k + ", " + i + ")", t.way(0, k, i), i < due[k].length ? due[k][i] : NONE);
            }
            Due.is("way(0, " + k + ", -1)", t.way(0, k, -1), BAD);
            Due.is("way(0, " + k + ", far)", t.way(0, k, Integer.MAX_VALUE), NONE);
        }
        Due.is("way(0, 6, 0)", t.way(0, 6, 0), BAD);
        Due.is("way(0, -1, 0)", t.way(0, -1, 0), BAD);
        Due.is("way(1, 0, 0)", t.way(1, 0, 0), BAD);
        Due.is("way(-1, 0, 0)", t.way(-1, 0, 0), BAD);
        Due.is("ways(1)", t.ways(1), BAD);
        Due.is("ways(-1)", t.ways(-1), BAD);
        t.open(3, 0);
        Due.is("ways(0) with 3 shut", t.ways(0), 3);
        t.driver(3, 0);
        Due.is("ways(1): roads go one way", t.ways(1), 0);
        Due.is("way(1, 0, 0)", t.way(1, 0, 0), BAD);
    }

    private static void waysWithoutReturn() {
        SelfishTown t = new SelfishTown();
        t.road(2, 0, 1, 0, 1);
        t.road(2, 1, 0, 0, 1);
        t.road(2, 1, 2, 0, 1);
        t.road(2, 2, 1, 0, 1);
        t.road(2, 2, 0, 0, 1);
        t.road(2, 0, 2, 0, 1);
        t.road(2, 2, 3, 0, 1);
        t.road(2, 3, 4, 0, 1);
        t.road(2, 4, 5, 0, 1);
        t.driver(0, 5);
        Due.is("ways(0)", t.ways(0), 2);
        int[] longest = {0, 2, 6, 7, 8, NONE};
        for (int i = 0; i < longest.length; i++) {
            Due.is("way(0, 0, " + i + ")", t.way(0, 0, i), longest[i]);
        }
        SelfishTown most = new SelfishTown();
        int[] roadsByStep = {3, 4, 3};
        for (int step = 0; step < 3; step++) {
            for (int i = 0; i < roadsByStep[step]; i++) {
                most.road(2, step, step + 1, 0, 1);
            }
        }
        most.driver(0, 3);
        Due.is("ways(0), as many as can be", most.ways(0), 36);
        Due.is("way(0, 35, 0)", most.way(0, 35, 0), 2);
        Due.is("way(0, 35, 1)", most.way(0, 35, 1), 6);
        Due.is("way(0, 35, 2)", most.way(0, 35, 2), 9);
    }

    private static void choose() {
        SelfishTown t = twins(2);
        Due.is("choose(0, 1)", t.choose(0, 1), NONE);
        Due.is("choose(0, 1) again", t.choose(0, 1), 1);
        Due.is("choose(0, 0)", t.choose(0, 0), 1);
        Due.is("choose(0, -1)", t.choose(0, -1), 0);
        Due.is("told(0, 0)", t.told(0, 0), NONE);
        Due.is("choose(0, -1) again", t.choose(0, -1), NONE);
        int kept = t.count(5);
        Due.is("choose(0, 2)", t.choose(0, 2), BAD);
        Due.is("choose(0, -2)", t.choose(0, -2), BAD);
        Due.is("choose(2, 0)", t.choose(2, 0), BAD);
        Due.is("choose(-1, 0)", t.choose(-1, 0), BAD);
        Due.is("count(5) after wrong ones", t.count(5), kept);
        t.driver(1, 0);
        Due.is("choose(2, 0): no way", t.choose(2, 0), BAD);
        Due.is("choose(2, -1)", t.choose(2, -1), NONE);
    }

    private static void told() {
        SelfishTown t = new SelfishTown();
        t.road(0, 0, 1, 2, 1);
        t.road(1, 1, 2, 3, 4);
        t.toll(0, 10);
        t.toll(1, 20);
        t.driver(0, 2);
        t.driver(1, 2);
        t.choose(0, 0);
        Due.is("told(0, 0)", t.told(0, 0), 0);
        Due.is("told(0, 1) alone", t.told(0, 1), 3 + 7);
        Due.is("told(0, 2) alone", t.told(0, 2), 10 + 30);
        Due.is("told(1, 0)", t.told(1, 0), NONE);
        Due.is("told(1, 1)", t.told(1, 1), NONE);
        Due.is("told(1, 2)", t.told(1, 2), NONE);
        Due.is("told(1, 3)", t.told(1, 3), 1);
        Due.is("told(1, 4)", t.told(1, 4), 2);
        t.choose(1, 0);
        Due.is("told(0, 1)", t.told(0, 1), 3 + 16);
        Due.is("told(1, 1)", t.told(1, 1), 16);
        Due.is("told(1, 2): of each the whole toll", t.told(1, 2), 36);
        Due.is("told(0, 2)", t.told(0, 2), 19 + 30);
        Due.is("told(0, 5)", t.told(0, 5), BAD);
        Due.is("told(0, -1)", t.told(0, -1), BAD);
        Due.is("told(2, 0)", t.told(2, 0), BAD);
        Due.is("told(-1, 0)", t.told(-1, 0), BAD);
    }

    private static void now() {
        SelfishTown t = twins(2);
        t.road(2, 1, 2, 0, 100);
        t.driver(0, 2);
        t.choose(0, 0);
        t.choose(1, 0);
        Due.is("now(0) with one without", t.now(0), NO);
        Due.is("now(2) with one without", t.now(2), NO);
        Due.is("now(3): BAD ahead of NO", t.now(3), BAD);
        Due.is("now(-1): BAD ahead of NO", t.now(-1), BAD);
        t.choose(2, 0);
        Due.is("now(0)", t.now(0), 9 + 9 + 109);
        Due.is("now(1)", t.now(1), 109);
        Due.is("now(2)", t.now(2), 0);
        t.choose(2, 1);
        Due.is("now(0) apart", t.now(0), 6 + 6 + 103);
        Due.is("now(1) apart", t.now(1), 103);
        Due.is("now(2): as much is not less", t.now(2), 1);
        t.toll(0, 3);
        Due.is("now(0): tolls are not time", t.now(0), 6 + 6 + 103);
        Due.is("now(2): tolls are cost", t.now(2), 0);
    }

    private static void store() {
        SelfishTown t = twins(3);
        Due.is("store() of none", t.store(), 0);
        t.choose(0, 0);
        t.choose(1, 0);
        Due.is("store() of two", t.store(), 3 + 6);
        t.toll(0, 5);
        Due.is("store() with tolls", t.store(), 3 + 6 + 10);
        t.choose(2, 1);
        Due.is("store() of three", t.store(), 3 + 6 + 10 + 3);
    }

    private static void reply() {
        SelfishTown t = twins(3);
        Due.is("reply(0) of equals", t.reply(0), 0);
        t.choose(1, 0);
        Due.is("reply(0) to one", t.reply(0), 1);
        t.choose(2, 1);
        Due.is("reply(0) to both", t.reply(0), 0);
        t.choose(0, 1);
        Due.is("reply(0): its own choice is not in the way", t.reply(0), 0);
        t.choose(1, 1);
        t.choose(0, 0);
        Due.is("reply(1)", t.reply(1), 0);
        t.toll(0, 7);
        Due.is("reply(1) with a toll", t.reply(1), 1);
        Due.is("told(1, 0): a reply is no choice", t.told(1, 0), 1);
        Due.is("reply(3)", t.reply(3), BAD);
        Due.is("reply(-1)", t.reply(-1), BAD);
        t.driver(1, 0);
        Due.is("reply(3): no way", t.reply(3), NO);
    }

    private static void better() {
        SelfishTown t = twins(5);
        Due.is("better(0): BAD ahead of NO", t.better(0), BAD);
        Due.is("better(201): BAD ahead of NO", t.better(201), BAD);
        Due.is("better(1)", t.better(1), NO);
        for (int d = 0; d < 5; d++) {
            t.choose(d, 0);
        }
        Due.is("better(1)", t.better(1), 1);
        Due.is("told(0, 0): the least went", t.told(0, 0), 1);
        Due.is("told(1, 0)", t.told(1, 0), 0);
        Due.is("better(200)", t.better(200), 1);
        Due.is("told(1, 0)", t.told(1, 0), 1);
        Due.is("told(2, 0)", t.told(2, 0), 0);
        Due.is("now(2)", t.now(2), 1);
        int kept = t.count(5);
        Due.is("undo()", t.undo(), kept - 1);
        Due.is("told(1, 0) undone", t.told(1, 0), 0);
        Due.is("better(2)", t.better(2), 1);
        Due.is("better(2) at rest", t.better(2), 0);
        Due.is("undo(): a better of none is a change", t.undo(), 7);
        Due.is("told(1, 0): and took nothing back", t.told(1, 0), 1);
    }

    private static void betterLowersStore() {
        SelfishTown t = new SelfishTown();
        int[][] roads = {{0, 0, 1, 9, 1}, {1, 0, 1, 2, 3}, {2, 0, 1, 0, 25}, {0, 1, 2, 4, 4}, {1, 1, 2, 1, 9}};
        for (int[] r : roads) {
            t.road(r[0], r[1], r[2], r[3], r[4]);
        }
        t.toll(1, 6);
        for (int d = 0; d < 5; d++) {
            t.driver(0, 2);
            t.choose(d, 0);
        }
        int before = t.store();
        int steps = 0;
        while (steps < 100 && t.better(1) == 1) {
            Due.holds("store() is less behind a step", t.store() < before);
            before = t.store();
            steps++;
        }
        Due.holds("there were steps", steps > 1);
        Due.is("now(2)", t.now(2), 1);
    }

    private static void queue() {
        SelfishTown t = twins(3);
        t.choose(0, 1);
        t.choose(1, 1);
        Due.is("queue()", t.queue(), 6 + 6 + 3);
        Due.is("told(0, 0)", t.told(0, 0), 0);
        Due.is("told(1, 0)", t.told(1, 0), 1);
        Due.is("told(2, 0)", t.told(2, 0), 0);
        t.toll(0, 100);
        Due.is("queue() with a toll", t.queue(), 27);
        Due.is("undo()", t.undo(), 7);
        Due.is("told(1, 0) undone", t.told(1, 0), 1);
        t.driver(1, 0);
        int kept = t.count(5);
        Due.is("queue(): one has no way", t.queue(), NO);
        Due.is("count(5) after it", t.count(5), kept);
        Due.is("told(1, 0) after it", t.told(1, 0), 1);
        SelfishTown large = large(3);
        Due.is("habits() of many", large.habits(), LARGE);
        // the first two are on all five roads that take x, of equals the least; the third on the flat ones
        Due.is("queue(): never LARGE", large.queue(), 10 + 10 + 10);
    }

    /** Five steps of two roads each: x or 2, so that each driver has 32 ways. */
    private static SelfishTown large(int drivers) {
        SelfishTown t = new SelfishTown();
        for (int i = 0; i < 5; i++) {
            t.road(0, i, i + 1, 1, 0);
            t.road(2, i, i + 1, 0, 2);
        }
        for (int d = 0; d < drivers; d++) {
            t.driver(0, 5);
        }
        return t;
    }

    private static void teach() {
        SelfishTown t = new SelfishTown();
        t.road(0, 0, 1, 4, 0);
        t.road(2, 0, 1, 0, 16);
        t.road(0, 3, 4, 1, 1);
        t.toll(2, 9);
        for (int d = 0; d < 4; d++) {
            t.driver(0, 1);
        }
        // all on the first is a rest of 64; two and two are 16 + 32
        Due.is("teach()", t.teach(), 1);
        Due.is("now(0)", t.now(0), 48);
        Due.is("USE", t.about(0, 7), 2);
        Due.is("about(0, 5)", t.about(0, 5), 4);
        Due.is("about(1, 5)", t.about(1, 5), 0);
        Due.is("about(2, 5): of a road nobody is on", t.about(2, 5), 0);
        Due.is("told(0, 0)", t.told(0, 0), 0);
        Due.is("told(3, 0)", t.told(3, 0), 1);
        t.undo();
        Due.is("about(2, 5) undone", t.about(2, 5), 9);
        Due.is("about(0, 5) undone", t.about(0, 5), 0);
        Due.is("told(3, 0) undone", t.told(3, 0), NONE);
        t.driver(1, 0);
        int kept = t.count(5);
        Due.is("teach(): one has no way", t.teach(), NO);
        Due.is("count(5) after it", t.count(5), kept);
        Due.is("about(2, 5) after it", t.about(2, 5), 9);
        Due.is("teach() of many", large(3).teach(), LARGE);
    }

    private static void teachWithinLimits() {
        SelfishTown t = new SelfishTown();
        t.road(3, 0, 1, 0, 0);
        t.road(3, 1, 2, 0, 0);
        t.road(1, 2, 3, 5, 0);
        t.table(0, 1, 1);
        t.table(1, 1, 3);
        t.enter(1, 0, 9);
        t.enter(1, 1, 8);
        t.enter(1, 2, 5);
        for (int d = 0; d < 3; d++) {
            t.driver(0, 3);
        }
        Due.is("teach()", t.teach(), 1);
        Due.is("no more with 3 than with 2", t.about(0, 5), 0);
        Due.is("0 if it is below 0", t.about(1, 5), 0);
        Due.is("(3 - 1) * (45 - 20)", t.about(2, 5), 50);
        t.table(0, 1, 2);
        Due.is("teach()", t.teach(), 1);
        Due.is("100000 at most", t.about(0, 5), 100000);
    }
}
