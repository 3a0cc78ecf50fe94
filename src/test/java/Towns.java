/** Towns that several tests begin with. */
final class Towns {
    private Towns() {
    }

    /** Just outside of what is allowed, and as far outside as can be. */
    static int[] outside(int least, int most) {
        return new int[] {least - 1, most + 1, Integer.MIN_VALUE, Integer.MAX_VALUE};
    }

    /** Roads from 0 to 1 that take x each, and so many drivers. */
    static SelfishTown sideBySide(int roads, int drivers) {
        SelfishTown t = new SelfishTown();
        for (int r = 0; r < roads; r++) {
            t.road(0, 0, 1, 1, 0);
        }
        for (int d = 0; d < drivers; d++) {
            t.driver(0, 1);
        }
        return t;
    }

    /** The town in which road 4 harms. */
    static SelfishTown harmed(int drivers) {
        SelfishTown t = new SelfishTown();
        t.road(0, 0, 1, 10, 0);
        t.road(2, 0, 2, 0, 50);
        t.road(2, 1, 3, 0, 50);
        t.road(0, 2, 3, 10, 0);
        t.road(2, 1, 2, 0, 0);
        for (int d = 0; d < drivers; d++) {
            t.driver(0, 3);
        }
        return t;
    }

    /** Five steps of two roads each, so that a driver from 0 to 5 has 32 ways, each of five roads. */
    static SelfishTown steps() {
        SelfishTown t = new SelfishTown();
        for (int i = 0; i < 5; i++) {
            t.road(0, i, i + 1, 1, 0);
            t.road(2, i, i + 1, 0, 2);
        }
        return t;
    }

    /** Each kind of road, two tables, a toll, a shut road, two choices; eight changes kept of more. */
    static SelfishTown lively() {
        SelfishTown t = new SelfishTown();
        t.road(0, 0, 1, 2, 1);
        t.road(2, 0, 1, 0, 6);
        t.road(3, 1, 2, 0, 0);
        t.road(1, 0, 2, 3, 3);
        t.open(3, 0);
        t.table(2, 1, 2);
        t.enter(2, 1, 300);
        t.table(0, 0, 6);
        t.enter(0, 5, 99);
        t.driver(0, 1);
        t.driver(0, 2);
        t.choose(0, 0);
        t.choose(1, 1);
        t.toll(1, 4);
        return t;
    }

    /** As lively(), with room for one more change to be kept. */
    static SelfishTown livelyWithRoom() {
        SelfishTown t = lively();
        t.toll(0, 1);
        t.undo();
        return t;
    }

    /** Two roads and a driver: three changes, all kept. */
    static SelfishTown calm() {
        SelfishTown t = new SelfishTown();
        t.road(0, 0, 1, 1, 5);
        t.road(2, 0, 1, 0, 7);
        t.driver(0, 1);
        return t;
    }

    /** All places taken: ten roads with tables of six, five drivers with choices, eight changes kept. */
    static SelfishTown full() {
        SelfishTown t = new SelfishTown();
        for (int r = 0; r < 10; r++) {
            t.road(r % 4, 0, 1, 1, r);
            t.table(r, r % 2, 6);
            t.enter(r, 5, r);
        }
        for (int d = 0; d < 5; d++) {
            t.driver(0, 1);
        }
        for (int d = 0; d < 5; d++) {
            t.choose(d, 9 - d);
        }
        return t;
    }
}
